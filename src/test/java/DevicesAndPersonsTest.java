/** Promises 1 to 7. */
public final class DevicesAndPersonsTest {
    private static final Class<IndexOutOfBoundsException> INDEX = IndexOutOfBoundsException.class;
    private static final Class<IllegalArgumentException> ARGUMENT = IllegalArgumentException.class;
    private static final Class<IllegalStateException> STATE = IllegalStateException.class;

    /** Two devices, and persons of the roles 0, 1, 1, 2: the first two at device 0, the third at 1, the last at none. */
    private static Keyceremony manned() {
        Keyceremony x = new Keyceremony();
        x.addDevice();
        x.addDevice();
        x.addPerson(0);
        x.addPerson(1);
        x.addPerson(1);
        x.addPerson(2);
        x.logIn(0, 0);
        x.logIn(1, 0);
        x.logIn(2, 1);
        return x;
    }

    private static void promise1() {
        Keyceremony x = new Keyceremony();
        Check.due("new acts", x.acts(), 0);
        Check.due("new head", x.head(), 7L);
        Check.due("new isSound", x.isSound(), true);
        Check.refused("new isPermitted", Keyceremony::new, y -> y.isPermitted('g', 0), INDEX);
        Check.refused("new flags", Keyceremony::new, y -> y.flags(0), INDEX);
        Check.refused("new logIn", Keyceremony::new, y -> y.logIn(0, -1), INDEX);
        Check.refused("new cipher", Keyceremony::new, y -> y.cipher(0), INDEX);
        Check.due("new advance", x.advance(1), 1);
        Check.due("first device", x.addDevice(), 0);
        Check.refused("no wrap yet", DevicesAndPersonsTest::manned, y -> y.unwrap(0, 0), INDEX);
    }

    private static Keyceremony fourDevices() {
        Keyceremony x = new Keyceremony();
        for (int device = 0; device < 4; device++) {
            Check.due("addDevice", x.addDevice(), device);
        }
        return x;
    }

    private static void promise2() {
        Check.refused("fifth device", DevicesAndPersonsTest::fourDevices, Keyceremony::addDevice, STATE);
        Keyceremony x = fourDevices();
        Check.due("device 3", x.isPermitted('g', 3), true);
    }

    private static void promise3() {
        Keyceremony x = fourDevices();
        Check.due("trust 0 1 at first", x.trust(0, 1, false), false);
        Check.due("trust 0 1 on", x.trust(0, 1, true), false);
        Check.due("trust 1 0 is the same", x.trust(1, 0, true), true);
        Check.due("trust 1 2 is another", x.trust(1, 2, true), false);
        Check.due("trust 1 0 off", x.trust(1, 0, false), true);
        Check.due("trust 0 1 is off", x.trust(0, 1, false), false);
        Check.due("trust 2 1 still", x.trust(2, 1, true), true);
        Check.refused("trust of no device", DevicesAndPersonsTest::manned, y -> y.trust(2, 0, true), INDEX);
        Check.refused("trust in no device", DevicesAndPersonsTest::manned, y -> y.trust(0, 2, true), INDEX);
        Check.refused("trust -1", DevicesAndPersonsTest::manned, y -> y.trust(-1, 0, true), INDEX);
        Check.refused("trust 0 -1", DevicesAndPersonsTest::manned, y -> y.trust(0, -1, true), INDEX);
        Check.refused("trust of the same, none", DevicesAndPersonsTest::manned, y -> y.trust(2, 2, true), INDEX);
        Check.refused("trust of the same", DevicesAndPersonsTest::manned, y -> y.trust(1, 1, true), ARGUMENT);
    }

    private static Keyceremony eightPersons() {
        Keyceremony x = manned();
        for (int person = 4; person < 8; person++) {
            Check.due("addPerson", x.addPerson(person % 3), person);
        }
        return x;
    }

    private static void promise4() {
        Keyceremony x = new Keyceremony();
        Check.due("person 0", x.addPerson(0), 0);
        Check.due("person 1", x.addPerson(2), 1);
        Check.refused("role 3", DevicesAndPersonsTest::manned, y -> y.addPerson(3), ARGUMENT);
        Check.refused("role -1", DevicesAndPersonsTest::manned, y -> y.addPerson(-1), ARGUMENT);
        Check.refused("ninth person", DevicesAndPersonsTest::eightPersons, y -> y.addPerson(0), STATE);
        Check.refused("ninth of no role", DevicesAndPersonsTest::eightPersons, y -> y.addPerson(3), ARGUMENT);
    }

    private static void promise5() {
        Keyceremony x = manned();
        Check.due("logIn 3 0", x.logIn(3, 0), -1);
        Check.due("logIn 3 1", x.logIn(3, 1), 0);
        Check.due("logIn 3 1 again", x.logIn(3, 1), 1);
        Check.due("logIn 3 out", x.logIn(3, -1), 1);
        Check.due("logIn 3 out again", x.logIn(3, -1), -1);
        Check.refused("logIn 4", DevicesAndPersonsTest::manned, y -> y.logIn(4, 0), INDEX);
        Check.refused("logIn -1", DevicesAndPersonsTest::manned, y -> y.logIn(-1, 0), INDEX);
        Check.refused("logIn at 2", DevicesAndPersonsTest::manned, y -> y.logIn(0, 2), INDEX);
        Check.refused("logIn at -2", DevicesAndPersonsTest::manned, y -> y.logIn(0, -2), INDEX);
    }

    private static void promise6() {
        Keyceremony x = manned();
        for (char kind : new char[] {'g', 'w', 'u', 'd', 's', 'c'}) {
            Check.due("setRule first", x.setRule(kind, 8, 2), 0);
            Check.due("setRule second", x.setRule(kind, 0, -1), 8);
            Check.due("setRule third", x.setRule(kind, 1, 0), 0);
        }
        Check.refused("kind x", DevicesAndPersonsTest::manned, y -> y.setRule('x', 1, 0), ARGUMENT);
        Check.refused("kind 0", DevicesAndPersonsTest::manned, y -> y.setRule((char) 0, 1, 0), ARGUMENT);
        Check.refused("kind G", DevicesAndPersonsTest::manned, y -> y.setRule('G', 1, 0), ARGUMENT);
        Check.refused("many -1", DevicesAndPersonsTest::manned, y -> y.setRule('g', -1, 0), ARGUMENT);
        Check.refused("many 9", DevicesAndPersonsTest::manned, y -> y.setRule('g', 9, 0), ARGUMENT);
        Check.refused("role -2", DevicesAndPersonsTest::manned, y -> y.setRule('g', 1, -2), ARGUMENT);
        Check.refused("role 3", DevicesAndPersonsTest::manned, y -> y.setRule('g', 1, 3), ARGUMENT);
    }

    private static void promise7() {
        Keyceremony x = manned();
        Check.due("no rule", x.isPermitted('g', 1), true);
        x.setRule('g', 2, -1);
        Check.due("two are at 0", x.isPermitted('g', 0), true);
        Check.due("one is at 1", x.isPermitted('g', 1), false);
        Check.due("another kind", x.isPermitted('w', 1), true);
        x.setRule('g', 0, 1);
        Check.due("role 1 at 0", x.isPermitted('g', 0), true);
        Check.due("role 1 at 1", x.isPermitted('g', 1), true);
        x.setRule('g', 0, 0);
        Check.due("role 0 at 0", x.isPermitted('g', 0), true);
        Check.due("role 0 at 1 is not role 1", x.isPermitted('g', 1), false);
        x.setRule('g', 1, 2);
        Check.due("role 2 at 0", x.isPermitted('g', 0), false);
        x.logIn(3, 0);
        Check.due("role 2 came to 0", x.isPermitted('g', 0), true);
        x.setRule('g', 3, 2);
        Check.due("three are at 0", x.isPermitted('g', 0), true);
        x.logIn(0, -1);
        Check.due("one of them left", x.isPermitted('g', 0), false);
        Check.refused("no device", DevicesAndPersonsTest::manned, y -> y.isPermitted('g', 2), INDEX);
        Check.refused("no device, no kind", DevicesAndPersonsTest::manned, y -> y.isPermitted('q', -1), INDEX);
        Check.refused("no kind", DevicesAndPersonsTest::manned, y -> y.isPermitted('q', 0), ARGUMENT);
    }

    public static void main(String[] args) {
        promise1();
        promise2();
        promise3();
        promise4();
        promise5();
        promise6();
        promise7();
        Check.end("DevicesAndPersonsTest");
    }
}
