import java.lang.reflect.Field;
import java.util.NoSuchElementException;
import java.util.function.Supplier;

/** Promises 29 to 36. */
public final class TimeAndLogTest {
    private static final Class<IllegalArgumentException> ARGUMENT = IllegalArgumentException.class;
    private static final Class<IllegalStateException> STATE = IllegalStateException.class;
    private static final Class<NoSuchElementException> NONE_SUCH = NoSuchElementException.class;

    /** Two devices that trust each other, with persons 0 and 2 at device 0, 1 at device 1. */
    private static Keyceremony manned() {
        Keyceremony x = new Keyceremony();
        x.addDevice();
        x.addDevice();
        x.trust(0, 1, true);
        for (int person = 0; person < 3; person++) {
            x.addPerson(person);
            x.logIn(person, person % 2);
        }
        return x;
    }

    private static Keyceremony lastDays() {
        Keyceremony x = manned();
        for (int times = 1; times < 20; times++) {
            Check.due("advance", x.advance(500), 500 * times);
        }
        Check.due("advance", x.advance(498), 9998);
        return x;
    }

    private static void promise29() {
        Keyceremony x = manned();
        Check.due("advance 1", x.advance(1), 1);
        Check.due("advance 500", x.advance(500), 501);
        Check.due("it is no act", x.acts(), 0);
        Check.due("to the last day", lastDays().advance(1), 9999);
        Check.refused("0 days", TimeAndLogTest::manned, y -> y.advance(0), ARGUMENT);
        Check.refused("-1 days", TimeAndLogTest::manned, y -> y.advance(-1), ARGUMENT);
        Check.refused("501 days", TimeAndLogTest::lastDays, y -> y.advance(501), ARGUMENT);
        Check.refused("2147483647 days", TimeAndLogTest::lastDays, y -> y.advance(Integer.MAX_VALUE), ARGUMENT);
        Check.refused("behind the last day", TimeAndLogTest::lastDays, y -> y.advance(2), STATE);
    }

    private static long headBehind(long head, int... numbers) {
        long next = head;
        for (int number : numbers) {
            next = next * 31 + number;
        }
        return next;
    }

    /** Does an act of each kind, and compares the log with what is due. */
    private static void promises30To33() {
        Keyceremony x = manned();
        long head = 7;
        x.generate(0, 2, 15, 9, 9);
        head = headBehind(head, 'g', 0, 0, 5, 0);
        Check.due("head of generate", x.head(), head);
        x.advance(3);
        x.derive(0, 0, 4, 15);
        head = headBehind(head, 'g', 0, 1, 5, 3);
        x.derive(0, 0, 4, 15);
        head = headBehind(head, 'g', 0, 1, 5, 3);
        Check.due("head of derive", x.head(), head);
        x.wrap(0, 0, 1);
        head = headBehind(head, 'w', 0, 0, 5, 3);
        x.wrap(0, 0, 1);
        head = headBehind(head, 'w', 0, 1, 5, 3);
        Check.due("head of wrap", x.head(), head);
        x.logIn(2, -1);
        x.unwrap(0, 1);
        head = headBehind(head, 'u', 0, 1, 1, 3);
        Check.due("head of unwrap", x.head(), head);
        x.follow(1, 0);
        head = headBehind(head, 'c', 1, 0, 2, 3);
        Check.due("head of follow", x.head(), head);
        x.rotate(1, 1);
        head = headBehind(head, 'g', 1, 2, 2, 3);
        Check.due("head of rotate", x.head(), head);
        x.share(1, 1, 2, 6);
        head = headBehind(head, 's', 1, 1, 2, 3);
        Check.due("head of share", x.head(), head);
        x.destroy(1, 1);
        head = headBehind(head, 'd', 1, 1, 2, 3);
        Check.due("head of destroy", x.head(), head);
        x.logIn(2, 1);
        x.falsify(2, 1, (x.card(2, 1) + 1) % 251);
        Check.due("recover", x.recover(1, 1), false);
        head = headBehind(head, 'u', 1, 1, 6, 3);
        Check.due("head of recover", x.head(), head);
        x.zeroise(0);
        head = headBehind(head, 'd', 0, -1, 1, 3);
        Check.due("head of zeroise", x.head(), head);
        told(x);
    }

    private static void told(Keyceremony x) {
        String kinds = "gggwwucgsdud";
        int[] persons = {5, 5, 5, 5, 5, 1, 2, 2, 2, 2, 6, 1};
        Check.due("acts", x.acts(), kinds.length());
        for (int index = 0; index < kinds.length(); index++) {
            Check.due("actAt " + index, x.actAt(index), kinds.charAt(index));
            Check.due("personsAt " + index, x.personsAt(index), persons[index]);
        }
        int acts = x.acts();
        long head = x.head();
        Check.due("refused", Check.thrownBy(() -> x.wrap(0, 0, 1)), "UnsupportedOperationException");
        x.tighten(0, 14);
        x.setRule('g', 8, 0);
        Check.due("refused", Check.thrownBy(() -> x.generate(0, 1, 15, 1, 1)), "IllegalStateException");
        Check.due("acts then", x.acts(), acts);
        Check.due("head then", x.head(), head);
    }

    private static Keyceremony oneAct() {
        Keyceremony x = manned();
        x.generate(1, 1, 15, 2, 0);
        return x;
    }

    private static void noSuchAct() {
        Check.due("actAt 0", oneAct().actAt(0), 'g');
        Check.due("personsAt 0", oneAct().personsAt(0), 2);
        Check.refused("actAt 1", TimeAndLogTest::oneAct, y -> y.actAt(1), NONE_SUCH);
        Check.refused("actAt -1", TimeAndLogTest::oneAct, y -> y.actAt(-1), NONE_SUCH);
        Check.refused("actAt 2147483647", TimeAndLogTest::oneAct, y -> y.actAt(Integer.MAX_VALUE), NONE_SUCH);
        Check.refused("personsAt 1", TimeAndLogTest::oneAct, y -> y.personsAt(1), NONE_SUCH);
        Check.refused("personsAt -1", TimeAndLogTest::oneAct, y -> y.personsAt(-1), NONE_SUCH);
        Check.refused("actAt of none", TimeAndLogTest::manned, y -> y.actAt(0), NONE_SUCH);
    }

    /** As many acts as an object has calls for. */
    private static void longLog() {
        Keyceremony x = manned();
        int calls = 9;
        long head = 7;
        for (; calls < 510; calls++) {
            x.zeroise(1);
            head = headBehind(head, 'd', 1, -1, 2, 0);
        }
        Check.due("acts", x.acts(), 501);
        Check.due("head", x.head(), head);
        for (; calls < 3000; calls++) {
            Check.due("zeroise", x.zeroise(1), 0);
        }
    }

    private static void promises34And35() {
        Keyceremony x = manned();
        Check.refused("activeShare of none", TimeAndLogTest::manned, Keyceremony::activeShare, ArithmeticException.class);
        Check.refused("meanCopies of none", TimeAndLogTest::manned, Keyceremony::meanCopies, ArithmeticException.class);
        x.generate(0, 1, 15, 1, 9);
        x.generate(0, 1, 15, 2, 0);
        x.generate(0, 1, 15, 3, 0);
        Check.due("activeShare", x.activeShare(), 1f);
        Check.due("meanCopies", x.meanCopies(), 1.0);
        x.advance(1);
        Check.due("activeShare, one reads", x.activeShare(), 2f / 3f);
        x.follow(1, 0);
        Check.due("meanCopies of two", x.meanCopies(), 2.0);
        x.destroy(0, 1);
        Check.due("meanCopies less one", x.meanCopies(), 5.0 / 3.0);
        x.advance(1);
        Check.due("activeShare, one expired", x.activeShare(), 1f / 3f);
        x.advance(1);
        Check.due("activeShare, none", x.activeShare(), 0f);
        x.zeroise(0);
        x.zeroise(1);
        Check.due("meanCopies, none", x.meanCopies(), 0.0);
    }

    private static Keyceremony busy() {
        Keyceremony x = manned();
        x.generate(0, 2, 15, 9, 9);
        x.derive(0, 0, 4, 7);
        x.wrap(0, 0, 1);
        x.encipher(0, 0, 200);
        x.encipher(0, 1, 201);
        x.follow(1, 0);
        x.tighten(0, 12);
        x.rotate(0, 0);
        x.renew(0, 0);
        x.share(0, 0, 2, 7);
        x.falsify(0, 0, 3);
        x.recover(0, 0);
        x.unwrap(1, 0);
        x.destroy(1, 1);
        return x;
    }

    private static void promise36() throws ReflectiveOperationException {
        Check.due("isSound, new", new Keyceremony().isSound(), true);
        Keyceremony x = busy();
        Check.due("isSound, busy", x.isSound(), true);
        x.advance(500);
        Check.due("isSound, all expired", x.isSound(), true);
        Supplier<Keyceremony> busy = TimeAndLogTest::busy;
        Keyceremony flagged = busy.get();
        ((int[]) inside(flagged, "keys", "flags"))[0] = 31;
        Check.due("isSound, a flag too many", flagged.isSound(), false);
        Keyceremony derived = busy.get();
        ((int[]) inside(derived, "keys", "flags"))[1] |= 8;
        Check.due("isSound, a flag that it was not made with", derived.isSound(), false);
        Keyceremony parted = busy.get();
        ((int[]) inside(parted, "keys", "flagsOfParent"))[1] = 3;
        Check.due("isSound, a flag that its parent did not have", parted.isSound(), false);
        Keyceremony garbled = busy.get();
        ((int[]) inside(garbled, "messages", "cipher"))[1] ^= 1;
        Check.due("isSound, a garbled message", garbled.isSound(), false);
        Keyceremony forged = busy.get();
        ((int[]) inside(forged, "log", "persons"))[2] ^= 1;
        Check.due("isSound, a forged act", forged.isSound(), false);
    }

    /** No call of the face makes a house unsound, so the test reaches inside. */
    private static Object inside(Keyceremony house, String part, String row) throws ReflectiveOperationException {
        Field outer = Keyceremony.class.getDeclaredField(part);
        outer.setAccessible(true);
        Object held = outer.get(house);
        Field inner = held.getClass().getDeclaredField(row);
        inner.setAccessible(true);
        return inner.get(held);
    }

    public static void main(String[] args) throws ReflectiveOperationException {
        promise29();
        promises30To33();
        noSuchAct();
        longLog();
        promises34And35();
        promise36();
        Check.end("TimeAndLogTest");
    }
}
