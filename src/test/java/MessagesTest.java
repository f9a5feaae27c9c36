import java.util.function.Supplier;

/** Promises 25 to 28. */
public final class MessagesTest {
    private static final Class<IndexOutOfBoundsException> INDEX = IndexOutOfBoundsException.class;
    private static final Class<IllegalArgumentException> ARGUMENT = IllegalArgumentException.class;
    private static final Class<UnsupportedOperationException> UNSUPPORTED = UnsupportedOperationException.class;
    private static final Class<IllegalStateException> STATE = IllegalStateException.class;

    /** At device 0 key 0 (all flags, 5 + 5 days), 1 (enciphers), 2 (deciphers); message 0 by key 0, 1 by key 1. */
    private static Keyceremony written() {
        Keyceremony x = new Keyceremony();
        x.addDevice();
        x.addDevice();
        x.trust(0, 1, true);
        x.generate(0, 1, 15, 5, 5);
        x.generate(0, 1, 4, 50, 5);
        x.generate(0, 1, 8, 50, 5);
        Check.due("encipher", x.encipher(0, 0, 250), 0);
        Check.due("encipher", x.encipher(0, 1, 100), 1);
        return x;
    }

    private static Keyceremony fullOfMessages() {
        Keyceremony x = written();
        for (int message = 2; message < 60; message++) {
            Check.due("encipher", x.encipher(0, 0, message), message);
        }
        return x;
    }

    private static void promise25() {
        Keyceremony x = written();
        int acts = x.acts();
        Check.due("encipher", x.encipher(0, 0, 0), 2);
        Check.due("it is no act", x.acts(), acts);
        Check.due("cipher 2", x.cipher(2), 5 * 3);
        Check.refused("no device", MessagesTest::written, y -> y.encipher(2, 0, 251), INDEX);
        Check.refused("no key", MessagesTest::written, y -> y.encipher(0, 3, 251), INDEX);
        Check.refused("value 251", MessagesTest::written, y -> y.encipher(1, 0, 251), ARGUMENT);
        Check.refused("value -1", MessagesTest::written, y -> y.encipher(0, 0, -1), ARGUMENT);
        Check.refused("no copy", MessagesTest::fullOfMessages, y -> y.encipher(1, 0, 1), UNSUPPORTED);
        Check.refused("may not encipher", MessagesTest::written, y -> y.encipher(0, 2, 1), UNSUPPORTED);
        Supplier<Keyceremony> later = () -> {
            Keyceremony y = written();
            y.advance(5);
            return y;
        };
        Check.refused("can only read", later, y -> y.encipher(0, 0, 1), UNSUPPORTED);
        Check.due("another key", later.get().encipher(0, 1, 1), 2);
        Check.refused("full", MessagesTest::fullOfMessages, y -> y.encipher(0, 0, 1), STATE);
        Check.refused("full, value 251", MessagesTest::fullOfMessages, y -> y.encipher(0, 0, 251), ARGUMENT);
    }

    private static void promise26() {
        Keyceremony x = fullOfMessages();
        Check.due("cipher 0", x.cipher(0), (250 + 5) % 251);
        Check.due("cipher 1", x.cipher(1), (100 + 25 * 2) % 251);
        Check.due("cipher 59", x.cipher(59), (59 + 5 * 60) % 251);
        Check.refused("cipher 2", MessagesTest::written, y -> y.cipher(2), INDEX);
        Check.refused("cipher 60", MessagesTest::fullOfMessages, y -> y.cipher(60), INDEX);
        Check.refused("cipher -1", MessagesTest::written, y -> y.cipher(-1), INDEX);
    }

    private static Keyceremony aged(int days) {
        Keyceremony x = written();
        x.advance(days);
        return x;
    }

    private static void promise27() {
        Keyceremony x = written();
        Check.due("read", x.read(0, 0), 250);
        x.follow(1, 0);
        x.destroy(0, 0);
        x.advance(9);
        Check.due("read on the last day", x.read(1, 0), 250);
        Keyceremony many = fullOfMessages();
        Check.due("read 59", many.read(0, 59), 59);
        Check.refused("no device", MessagesTest::written, y -> y.read(2, 0), INDEX);
        Check.refused("no message", MessagesTest::written, y -> y.read(0, 2), INDEX);
        Check.refused("message -1", MessagesTest::written, y -> y.read(0, -1), INDEX);
        Check.refused("no copy", MessagesTest::written, y -> y.read(1, 0), UNSUPPORTED);
        Check.refused("may not decipher", MessagesTest::written, y -> y.read(0, 1), UNSUPPORTED);
        Check.refused("expired", () -> aged(10), y -> y.read(0, 0), UNSUPPORTED);
    }

    private static Keyceremony rotated() {
        Keyceremony x = written();
        Check.due("rotate", x.rotate(0, 0), 3);
        return x;
    }

    private static void promise28() {
        Keyceremony x = written();
        Check.due("without a rotation", x.renew(0, 0), 0);
        Check.due("without a rotation, nor a copy", x.renew(1, 0), 0);
        Check.due("nor the flag to read", x.renew(0, 1), 1);
        Check.due("nothing is done", x.cipher(0), 4);
        x.rotate(0, 0);
        x.advance(4);
        Check.due("rotate twice", x.rotate(0, 3), 4);
        Check.due("the last one", x.renew(0, 0), 4);
        int secret = (7 * 16 + 13 * 4 + 5) % 251;
        Check.due("cipher", x.cipher(0), (250 + secret) % 251);
        Check.due("read", x.read(0, 0), 250);
        Check.due("renew once more", x.renew(0, 0), 4);
        Check.due("isSound", x.isSound(), true);
        Check.refused("no device", MessagesTest::written, y -> y.renew(2, 0), INDEX);
        Check.refused("no message", MessagesTest::written, y -> y.renew(0, 2), INDEX);
        Check.refused("no copy of both", MessagesTest::rotated, y -> y.renew(1, 0), UNSUPPORTED);
    }

    private static void renewRefused() {
        Supplier<Keyceremony> withoutOld = () -> {
            Keyceremony x = rotated();
            x.destroy(0, 0);
            return x;
        };
        Check.refused("no copy of the old one", withoutOld, x -> x.renew(0, 0), UNSUPPORTED);
        Supplier<Keyceremony> withoutNew = () -> {
            Keyceremony x = rotated();
            x.destroy(0, 3);
            return x;
        };
        Check.refused("no copy of the new one", withoutNew, x -> x.renew(0, 0), UNSUPPORTED);
        Supplier<Keyceremony> unread = () -> {
            Keyceremony x = rotated();
            x.tighten(0, 7);
            return x;
        };
        Check.refused("the old one may not decipher", unread, x -> x.renew(0, 0), UNSUPPORTED);
        Supplier<Keyceremony> unwritten = () -> {
            Keyceremony x = rotated();
            x.tighten(3, 11);
            return x;
        };
        Check.refused("the new one may not encipher", unwritten, x -> x.renew(0, 0), UNSUPPORTED);
        Supplier<Keyceremony> late = () -> {
            Keyceremony x = rotated();
            x.advance(5);
            return x;
        };
        Check.refused("the old one has expired", late, x -> x.renew(0, 0), UNSUPPORTED);
        Supplier<Keyceremony> resting = () -> {
            Keyceremony x = written();
            x.generate(0, 1, 12, 1, 9);
            x.encipher(0, 3, 7);
            x.rotate(0, 3);
            x.advance(1);
            return x;
        };
        Check.refused("the new one can only read", resting, x -> x.renew(0, 2), UNSUPPORTED);
        Check.due("though the old one can be read", resting.get().read(0, 2), 7);
        Supplier<Keyceremony> behind = () -> {
            Keyceremony x = rotated();
            x.rotate(0, 3);
            x.destroy(0, 4);
            return x;
        };
        Check.refused("only one that is not the last", behind, x -> x.renew(0, 0), UNSUPPORTED);
    }

    public static void main(String[] args) {
        promise25();
        promise26();
        promise27();
        promise28();
        renewRefused();
        Check.end("MessagesTest");
    }
}
