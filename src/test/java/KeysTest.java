import java.util.function.Supplier;

/** Promises 8 to 17. */
public final class KeysTest {
    private static final Class<IndexOutOfBoundsException> INDEX = IndexOutOfBoundsException.class;
    private static final Class<IllegalArgumentException> ARGUMENT = IllegalArgumentException.class;
    private static final Class<UnsupportedOperationException> UNSUPPORTED = UnsupportedOperationException.class;
    private static final Class<IllegalStateException> STATE = IllegalStateException.class;

    /** Two devices that trust each other; at 0 key 0 (strength 3, flags 15, 10 + 5 days) and 1 (1, 14, 2 + 0 days). */
    private static Keyceremony keyed() {
        Keyceremony x = new Keyceremony();
        x.addDevice();
        x.addDevice();
        x.trust(0, 1, true);
        x.addPerson(1);
        x.generate(0, 3, 15, 10, 5);
        x.generate(0, 1, 14, 2, 0);
        return x;
    }

    private static Keyceremony forbidden(char kind) {
        Keyceremony x = keyed();
        x.setRule(kind, 1, -1);
        return x;
    }

    private static Keyceremony full() {
        Keyceremony x = keyed();
        x.derive(0, 0, 9, 15);
        while (x.generate(0, 1, 15, 1, 1) < 23) {
            x.tighten(0, 15);
        }
        return x;
    }

    /** The secret of a key shows in the first message that it enciphers. */
    private static int secretOf(Keyceremony x, int device, int key, int message) {
        Check.due("encipher", x.encipher(device, key, 0), message);
        for (int secret = 0; secret < 251; secret++) {
            if (secret * (message + 1) % 251 == x.cipher(message)) {
                return secret;
            }
        }
        return -1;
    }

    private static void promise8() {
        Keyceremony x = keyed();
        Check.due("generate", x.generate(1, 2, 4, 1, 0), 2);
        Check.due("its flags", x.flags(2), 4);
        Check.due("its stage", x.stage(2), 'a');
        Check.due("has 1 2", x.has(1, 2), true);
        Check.due("has 0 2", x.has(0, 2), false);
        Check.due("its secret", secretOf(x, 1, 2, 0), 7 * 4 + 13 * 2 + 5 * 2 + 3);
        Check.due("secret of 0", secretOf(x, 0, 0, 1), 15);
        Check.due("longest", x.generate(0, 1, 0, 500, 500), 3);
        Check.due("acts", x.acts(), 4);
        Keyceremony many = full();
        Check.due("secret of 23", secretOf(many, 0, 23, 0), (7 * 23 * 23 + 13 * 23 + 5) % 251);
        Check.refused("no device", KeysTest::keyed, y -> y.generate(2, 0, 0, 0, 0), INDEX);
        Check.refused("device -1", KeysTest::keyed, y -> y.generate(-1, 1, 0, 1, 0), INDEX);
        Check.refused("strength 0", KeysTest::keyed, y -> y.generate(0, 0, 0, 1, 0), ARGUMENT);
        Check.refused("strength 4", KeysTest::keyed, y -> y.generate(0, 4, 0, 1, 0), ARGUMENT);
        Check.refused("flags -1", KeysTest::keyed, y -> y.generate(0, 1, -1, 1, 0), ARGUMENT);
        Check.refused("flags 16", KeysTest::keyed, y -> y.generate(0, 1, 16, 1, 0), ARGUMENT);
        Check.refused("life 0", KeysTest::keyed, y -> y.generate(0, 1, 0, 0, 0), ARGUMENT);
        Check.refused("life 501", KeysTest::keyed, y -> y.generate(0, 1, 0, 501, 0), ARGUMENT);
        Check.refused("reading -1", KeysTest::keyed, y -> y.generate(0, 1, 0, 1, -1), ARGUMENT);
        Check.refused("reading 501", KeysTest::keyed, y -> y.generate(0, 1, 0, 1, 501), ARGUMENT);
        Check.refused("out of range, full", KeysTest::full, y -> y.generate(0, 1, 0, 1, 501), ARGUMENT);
        Check.refused("full", KeysTest::full, y -> y.generate(0, 1, 0, 1, 0), STATE);
        Check.refused("not permitted", () -> forbidden('g'), y -> y.generate(0, 1, 0, 1, 0), STATE);
    }

    private static Keyceremony derived() {
        Keyceremony x = keyed();
        x.advance(1);
        Check.due("derive", x.derive(0, 0, 99, 6), 2);
        return x;
    }

    private static void promise9() {
        Keyceremony x = derived();
        Check.due("its flags", x.flags(2), 6);
        Check.due("its secret", secretOf(x, 0, 2, 0), (15 * 101 + 31) % 251);
        Check.due("derive another label", x.derive(0, 0, 0, 15), 3);
        Check.due("derive another parent", x.derive(0, 1, 99, 15), 4);
        Check.due("flags that the parent has, too", x.flags(4), 14);
        Check.due("the same anew", x.derive(0, 0, 99, 15), 2);
        Check.due("flags stay", x.flags(2), 6);
        x.tighten(0, 8);
        Check.due("flags stay when the parent's go", x.flags(3), 15);
        x.follow(1, 0);
        Check.due("destroy 1 2", x.destroy(1, 2), 1);
        Check.due("derived from a derived one", x.derive(1, 3, 5, 1), 5);
        Check.due("its copy is at 1", x.has(1, 5), true);
        Check.due("and not at 0", x.has(0, 5), false);
        Check.due("derived at 0, too", x.derive(0, 3, 5, 0), 5);
        Check.due("its copy at 0", x.has(0, 5), true);
        Check.refused("no device", KeysTest::derived, y -> y.derive(2, 0, 100, 0), INDEX);
        Check.refused("no key", KeysTest::derived, y -> y.derive(0, 3, 100, 0), INDEX);
        Check.refused("key -1", KeysTest::derived, y -> y.derive(0, -1, 0, 0), INDEX);
        Check.refused("label -1", KeysTest::derived, y -> y.derive(0, 0, -1, 0), ARGUMENT);
        Check.refused("label 100", KeysTest::derived, y -> y.derive(0, 0, 100, 0), ARGUMENT);
        Check.refused("flags 16", KeysTest::derived, y -> y.derive(1, 0, 0, 16), ARGUMENT);
        Check.refused("flags -1", KeysTest::derived, y -> y.derive(1, 0, 0, -1), ARGUMENT);
        Check.refused("no copy", KeysTest::derived, y -> y.derive(1, 0, 0, 0), UNSUPPORTED);
        Check.refused("no copy, forbidden", () -> forbidden('g'), y -> y.derive(1, 0, 0, 0), UNSUPPORTED);
        Supplier<Keyceremony> destroyed = () -> {
            Keyceremony y = derived();
            y.destroy(0, 2);
            return y;
        };
        Check.refused("destroyed", destroyed, y -> y.derive(0, 0, 99, 0), UNSUPPORTED);
        Check.due("not destroyed", destroyed.get().derive(0, 0, 98, 0), 3);
        Check.refused("forbidden", () -> forbidden('g'), y -> y.derive(0, 0, 0, 0), STATE);
        Check.refused("full", KeysTest::full, y -> y.derive(0, 0, 0, 0), STATE);
        // The document names no exception from this for a key that there is already.
        Check.refused("full, anew", KeysTest::full, y -> y.derive(0, 0, 9, 0), STATE);
    }

    private static void daysOfDerived() {
        Keyceremony x = derived();
        x.advance(8);
        Check.due("day 9", x.stage(2), 'a');
        x.advance(1);
        Check.due("day 10", x.stage(2), 'r');
        x.advance(4);
        Check.due("day 14", x.stage(2), 'r');
        x.advance(1);
        Check.due("day 15", x.stage(2), 'x');
        Keyceremony y = derived();
        y.rotate(0, 0);
        Check.due("the parent rests", y.stage(0), 'r');
        Check.due("not the derived one", y.stage(2), 'a');
        Check.due("rotate the derived one", y.rotate(0, 2), 4);
        y.advance(8);
        Check.due("life of 9 days", y.stage(4), 'a');
        y.advance(1);
        Check.due("and no more", y.stage(4), 'r');
        y.advance(5);
        Check.due("time of reading of 5", y.stage(4), 'x');
        Supplier<Keyceremony> resting = () -> {
            Keyceremony z = derived();
            z.rotate(0, 0);
            return z;
        };
        Check.refused("parent not active", resting, z -> z.derive(0, 0, 99, 0), UNSUPPORTED);
    }

    private static void promise10() {
        Keyceremony x = keyed();
        x.tighten(0, 13);
        x.advance(3);
        Check.due("rotate", x.rotate(0, 0), 2);
        Check.due("flags of 2", x.flags(2), 13);
        Check.due("secret of 2", secretOf(x, 0, 2, 0), 28 + 26 + 15);
        Check.due("stage of 0", x.stage(0), 'r');
        Check.due("stage of 2", x.stage(2), 'a');
        Check.due("has 2", x.has(0, 2), true);
        Check.due("has 1 2", x.has(1, 2), false);
        x.advance(4);
        Check.due("stage of 0 then", x.stage(0), 'r');
        x.advance(1);
        Check.due("expired 5 days after the rotation", x.stage(0), 'x');
        x.advance(4);
        Check.due("stage of 2 on day 12", x.stage(2), 'a');
        x.advance(1);
        Check.due("stage of 2 on day 13", x.stage(2), 'r');
        x.advance(5);
        Check.due("stage of 2 on day 18", x.stage(2), 'x');
        Keyceremony y = keyed();
        y.rotate(0, 1);
        Check.due("no time of reading", y.stage(1), 'x');
        Check.refused("no device", KeysTest::keyed, z -> z.rotate(2, 0), INDEX);
        Check.refused("no key", KeysTest::keyed, z -> z.rotate(0, 2), INDEX);
        Check.refused("no copy", () -> forbidden('g'), z -> z.rotate(1, 0), UNSUPPORTED);
        Supplier<Keyceremony> rotated = () -> {
            Keyceremony z = keyed();
            z.rotate(0, 0);
            z.advance(2);
            return z;
        };
        Check.refused("one behind it", rotated, z -> z.rotate(0, 0), UNSUPPORTED);
        Check.refused("not active", rotated, z -> z.rotate(0, 1), UNSUPPORTED);
        Check.refused("forbidden", () -> forbidden('g'), z -> z.rotate(0, 0), STATE);
        Check.refused("full", KeysTest::full, z -> z.rotate(0, 0), STATE);
    }

    private static void promise11() {
        Keyceremony x = keyed();
        Check.due("tighten 0 7", x.tighten(0, 7), 7);
        Check.due("tighten 0 12", x.tighten(0, 12), 4);
        Check.due("tighten 0 15", x.tighten(0, 15), 4);
        Check.due("tighten 1 0", x.tighten(1, 0), 0);
        Check.due("acts", x.acts(), 2);
        Check.refused("no key", KeysTest::keyed, y -> y.tighten(2, 16), INDEX);
        Check.refused("flags 16", KeysTest::keyed, y -> y.tighten(0, 16), ARGUMENT);
        Check.refused("flags -1", KeysTest::keyed, y -> y.tighten(0, -1), ARGUMENT);
    }

    private static void promises12To14() {
        Keyceremony x = keyed();
        Check.due("flags 1", x.flags(1), 14);
        Check.due("has 0 1", x.has(0, 1), true);
        Check.due("has 1 1", x.has(1, 1), false);
        x.advance(1);
        Check.due("stage of 1 on day 1", x.stage(1), 'a');
        x.advance(1);
        Check.due("stage of 1 on day 2", x.stage(1), 'x');
        x.advance(8);
        Check.due("stage of 0 on day 10", x.stage(0), 'r');
        x.advance(5);
        Check.due("stage of 0 on day 15", x.stage(0), 'x');
        Check.due("an expired copy is one", x.has(0, 0), true);
        Check.refused("flags 2", KeysTest::keyed, y -> y.flags(2), INDEX);
        Check.refused("flags -1", KeysTest::keyed, y -> y.flags(-1), INDEX);
        Check.refused("stage 2", KeysTest::keyed, y -> y.stage(2), INDEX);
        Check.refused("stage -1", KeysTest::keyed, y -> y.stage(-1), INDEX);
        Check.refused("has 2 0", KeysTest::keyed, y -> y.has(2, 0), INDEX);
        Check.refused("has 0 2", KeysTest::keyed, y -> y.has(0, 2), INDEX);
        Check.refused("has 0 -1", KeysTest::keyed, y -> y.has(0, -1), INDEX);
    }

    private static void promise15() {
        Keyceremony x = keyed();
        x.follow(1, 0);
        Check.due("destroy 0 0", x.destroy(0, 0), 1);
        Check.due("has 0 0", x.has(0, 0), false);
        Check.due("has 1 0", x.has(1, 0), true);
        Check.due("it does not come again", x.follow(0, 1), 0);
        Check.due("destroy 1 0", x.destroy(1, 0), 0);
        Check.due("kind", x.actAt(x.acts() - 1), 'd');
        Check.refused("no device", KeysTest::keyed, y -> y.destroy(2, 0), INDEX);
        Check.refused("no key", KeysTest::keyed, y -> y.destroy(0, 2), INDEX);
        Check.refused("no copy", () -> forbidden('d'), y -> y.destroy(1, 0), UNSUPPORTED);
        Check.refused("forbidden", () -> forbidden('d'), y -> y.destroy(0, 0), STATE);
    }

    private static void promise16() {
        Keyceremony x = keyed();
        x.follow(1, 0);
        x.destroy(0, 1);
        Check.due("zeroise", x.zeroise(0), 1);
        Check.due("has 0 0", x.has(0, 0), false);
        Check.due("it forgot what it destroyed", x.follow(0, 1), 2);
        Check.due("has 0 1", x.has(0, 1), true);
        x.zeroise(1);
        Check.due("zeroise of nothing", x.zeroise(1), 0);
        Check.due("kind", x.actAt(x.acts() - 1), 'd');
        Check.refused("no device", () -> forbidden('d'), y -> y.zeroise(2), INDEX);
        Check.refused("forbidden", () -> forbidden('d'), y -> y.zeroise(0), STATE);
    }

    private static void promise17() {
        Keyceremony x = keyed();
        Check.due("follow", x.follow(1, 0), 2);
        Check.due("follow again", x.follow(1, 0), 0);
        x.destroy(0, 0);
        Check.due("one is destroyed", x.follow(1, 0), -1);
        Check.due("has 1 0", x.has(1, 0), false);
        Check.due("the other key stays", x.has(1, 1), true);
        x.generate(0, 1, 15, 1, 1);
        x.destroy(0, 2);
        Check.due("one of which it has no copy", x.follow(1, 0), 0);
        x.zeroise(0);
        x.trust(0, 1, false);
        x.addDevice();
        x.trust(1, 2, true);
        Check.due("what is remembered goes on", x.follow(2, 1), 1);
        Keyceremony own = keyed();
        own.generate(1, 1, 15, 1, 1);
        Check.due("two more", own.follow(1, 0), 2);
        Check.due("its own copy stays", own.has(1, 2), true);
        Check.due("and comes to the other one only when this follows", own.has(0, 2), false);
        Check.refused("no device", KeysTest::keyed, y -> y.follow(2, 0), INDEX);
        Check.refused("no other one", KeysTest::keyed, y -> y.follow(0, 2), INDEX);
        Check.refused("itself", () -> forbidden('c'), y -> y.follow(0, 0), UNSUPPORTED);
        Check.refused("forbidden", () -> forbidden('c'), y -> y.follow(1, 0), STATE);
        Supplier<Keyceremony> apart = () -> {
            Keyceremony y = forbidden('c');
            y.trust(1, 0, false);
            return y;
        };
        Check.refused("no trust", apart, y -> y.follow(1, 0), UNSUPPORTED);
    }

    /** A device that learnt by following that a key is destroyed does not get it from a third one. */
    private static void missedDeletion() {
        Keyceremony x = keyed();
        x.addDevice();
        x.trust(0, 2, true);
        x.trust(1, 2, true);
        x.follow(2, 0);
        x.destroy(0, 0);
        Check.due("1 learns it", x.follow(1, 0), 1);
        Check.due("2 missed it", x.has(2, 0), true);
        Check.due("1 does not get it from 2", x.follow(1, 2), 0);
        Check.due("2 hears it from 1", x.follow(2, 1), -1);
        Check.due("and has it no more", x.has(2, 0), false);
    }

    public static void main(String[] args) {
        promise8();
        promise9();
        daysOfDerived();
        promise10();
        promise11();
        promises12To14();
        promise15();
        promise16();
        promise17();
        missedDeletion();
        Check.end("KeysTest");
    }
}
