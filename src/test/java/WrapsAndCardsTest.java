import java.util.NoSuchElementException;
import java.util.function.Supplier;

/** Promises 18 to 24. */
public final class WrapsAndCardsTest {
    private static final Class<IndexOutOfBoundsException> INDEX = IndexOutOfBoundsException.class;
    private static final Class<IllegalArgumentException> ARGUMENT = IllegalArgumentException.class;
    private static final Class<UnsupportedOperationException> UNSUPPORTED = UnsupportedOperationException.class;
    private static final Class<IllegalStateException> STATE = IllegalStateException.class;
    private static final Class<NoSuchElementException> NONE_SUCH = NoSuchElementException.class;

    /**
     * Two devices, four persons (none logged in). Device 0 has key 0 (strength 2, all flags, 10 + 5 days),
     * 1 (2, 1), 2 (3, 1), 3 (1, 14), 4 (1, 13) and 5 (2, 3); device 1 has key 0, too.
     */
    private static Keyceremony keyed() {
        Keyceremony x = new Keyceremony();
        x.addDevice();
        x.addDevice();
        for (int person = 0; person < 4; person++) {
            x.addPerson(person % 3);
        }
        x.generate(0, 2, 15, 10, 5);
        x.trust(0, 1, true);
        x.follow(1, 0);
        x.trust(0, 1, false);
        x.generate(0, 2, 1, 1, 0);
        x.generate(0, 3, 1, 100, 0);
        x.generate(0, 1, 14, 100, 0);
        x.generate(0, 1, 13, 100, 0);
        x.generate(0, 2, 3, 100, 0);
        return x;
    }

    private static Keyceremony forbidden(char kind, Supplier<Keyceremony> recipe) {
        Keyceremony x = recipe.get();
        x.setRule(kind, 4, -1);
        return x;
    }

    private static Keyceremony fullOfWraps() {
        Keyceremony x = keyed();
        for (int wrap = 0; wrap < 60; wrap++) {
            Check.due("wrap", x.wrap(0, 0, 1), wrap);
        }
        return x;
    }

    private static void promise18() {
        Keyceremony x = keyed();
        Check.due("of the same strength", x.wrap(0, 0, 1), 0);
        Check.due("of less strength", x.wrap(0, 0, 4), 1);
        x.advance(1);
        Check.due("one that has expired", x.wrap(0, 0, 1), 2);
        Check.due("kind", x.actAt(x.acts() - 1), 'w');
        Check.refused("no device", WrapsAndCardsTest::keyed, y -> y.wrap(2, 0, 0), INDEX);
        Check.refused("no wrapping key", WrapsAndCardsTest::keyed, y -> y.wrap(0, 6, 0), INDEX);
        Check.refused("no key", WrapsAndCardsTest::keyed, y -> y.wrap(0, 0, 6), INDEX);
        Check.refused("both the same, none", WrapsAndCardsTest::keyed, y -> y.wrap(0, -1, -1), INDEX);
        Check.refused("both the same", WrapsAndCardsTest::keyed, y -> y.wrap(1, 1, 1), ARGUMENT);
        Check.refused("not the key", WrapsAndCardsTest::keyed, y -> y.wrap(1, 0, 1), UNSUPPORTED);
        Check.refused("not the wrapping key", WrapsAndCardsTest::keyed, y -> y.wrap(1, 5, 0), UNSUPPORTED);
        Check.refused("may not leave", WrapsAndCardsTest::keyed, y -> y.wrap(0, 0, 3), UNSUPPORTED);
        Check.refused("may not wrap", WrapsAndCardsTest::keyed, y -> y.wrap(0, 4, 0), UNSUPPORTED);
        Check.refused("is weaker", WrapsAndCardsTest::keyed, y -> y.wrap(0, 0, 2), UNSUPPORTED);
        Supplier<Keyceremony> later = () -> {
            Keyceremony y = forbidden('w', WrapsAndCardsTest::keyed);
            y.advance(10);
            return y;
        };
        Check.refused("can only read", later, y -> y.wrap(0, 0, 1), UNSUPPORTED);
        Check.refused("full, but weaker", WrapsAndCardsTest::fullOfWraps, y -> y.wrap(0, 0, 2), UNSUPPORTED);
        Check.refused("full", WrapsAndCardsTest::fullOfWraps, y -> y.wrap(0, 0, 1), STATE);
        Check.refused("forbidden", () -> forbidden('w', WrapsAndCardsTest::keyed), y -> y.wrap(0, 0, 1), STATE);
    }

    /** Wrap 0 holds key 1 by key 0, wrap 1 key 4 by key 5. */
    private static Keyceremony wrapped() {
        Keyceremony x = keyed();
        x.wrap(0, 0, 1);
        x.wrap(0, 5, 4);
        return x;
    }

    private static void promise19() {
        Keyceremony x = wrapped();
        x.advance(14);
        Check.due("unwrap 1 0", x.unwrap(1, 0), 1);
        Check.due("has 1 1", x.has(1, 1), true);
        Check.due("unwrap where it is", x.unwrap(0, 0), 1);
        Check.due("kind", x.actAt(x.acts() - 1), 'u');
        Check.refused("no device", WrapsAndCardsTest::wrapped, y -> y.unwrap(2, 0), INDEX);
        Check.refused("no wrap", WrapsAndCardsTest::wrapped, y -> y.unwrap(1, 2), INDEX);
        Check.refused("wrap -1", WrapsAndCardsTest::wrapped, y -> y.unwrap(1, -1), INDEX);
        Check.refused("no copy of the wrapping key", WrapsAndCardsTest::wrapped, y -> y.unwrap(1, 1), UNSUPPORTED);
        Check.refused("may not decipher", WrapsAndCardsTest::wrapped, y -> y.unwrap(0, 1), UNSUPPORTED);
        Supplier<Keyceremony> elsewhere = () -> {
            Keyceremony y = wrapped();
            y.zeroise(1);
            return y;
        };
        Check.refused("the wrapping key is elsewhere", elsewhere, y -> y.unwrap(1, 0), UNSUPPORTED);
        Supplier<Keyceremony> tightened = () -> {
            Keyceremony y = wrapped();
            y.tighten(0, 7);
            return y;
        };
        Check.refused("may decipher no more", tightened, y -> y.unwrap(1, 0), UNSUPPORTED);
        Supplier<Keyceremony> expired = () -> {
            Keyceremony y = wrapped();
            y.advance(15);
            return y;
        };
        Check.refused("expired", expired, y -> y.unwrap(1, 0), UNSUPPORTED);
        Supplier<Keyceremony> destroyed = () -> {
            Keyceremony y = wrapped();
            y.unwrap(1, 0);
            y.destroy(1, 1);
            y.setRule('u', 1, -1);
            return y;
        };
        Check.refused("destroyed", destroyed, y -> y.unwrap(1, 0), UNSUPPORTED);
        Check.refused("forbidden", () -> forbidden('u', WrapsAndCardsTest::wrapped), y -> y.unwrap(1, 0), STATE);
        Keyceremony z = wrapped();
        z.tighten(1, 0);
        z.unwrap(1, 0);
        Check.due("a wrap gives no flags", z.flags(1), 0);
    }

    private static void promise20() {
        Keyceremony x = keyed();
        Check.due("by a wrap to be made", x.canReach(1, 1), true);
        Check.due("it is stronger", x.canReach(2, 1), false);
        Check.due("it may not leave", x.canReach(3, 1), false);
        Check.due("where it is", x.canReach(3, 0), true);
        x.setRule('w', 8, -1);
        x.setRule('u', 8, -1);
        Check.due("quorums are there", x.canReach(1, 1), true);
        x.advance(10);
        Check.due("the wrapping key can only read", x.canReach(4, 1), false);
        Keyceremony y = wrapped();
        y.advance(10);
        Check.due("a wrap that there is", y.canReach(1, 1), true);
        Check.due("none that there is", y.canReach(4, 1), false);
        y.advance(5);
        Check.due("the wrapping key has expired", y.canReach(1, 1), false);
        Keyceremony both = wrapped();
        both.wrap(0, 0, 4);
        both.wrap(0, 5, 4);
        both.advance(10);
        Check.due("the first of two wraps", both.canReach(1, 1), true);
        Check.due("the second of two wraps", both.canReach(4, 1), true);
        Keyceremony z = wrapped();
        z.unwrap(1, 0);
        z.destroy(1, 1);
        Check.due("as if nothing was destroyed", z.canReach(1, 1), true);
        z.tighten(0, 7);
        Check.due("may decipher no more", z.canReach(1, 1), false);
        Check.refused("no key", WrapsAndCardsTest::keyed, w -> w.canReach(6, 0), INDEX);
        Check.refused("key -1", WrapsAndCardsTest::keyed, w -> w.canReach(-1, 0), INDEX);
        Check.refused("no device", WrapsAndCardsTest::keyed, w -> w.canReach(0, 2), INDEX);
        Check.refused("device -1", WrapsAndCardsTest::keyed, w -> w.canReach(0, -1), INDEX);
    }

    /** Key 3 comes to device 2 only after key 2 came there by key 1, and key 1 by key 0, some by way of device 1. */
    private static void longReach() {
        Keyceremony x = new Keyceremony();
        x.addDevice();
        x.addDevice();
        x.addDevice();
        x.trust(0, 1, true);
        x.trust(0, 2, true);
        x.generate(0, 3, 14, 9, 0);
        x.follow(1, 0);
        x.follow(2, 0);
        x.generate(0, 3, 15, 9, 0);
        x.generate(1, 3, 15, 9, 0);
        x.generate(1, 2, 1, 9, 0);
        x.wrap(1, 2, 3);
        x.destroy(1, 3);
        Check.due("over two keys to 2", x.canReach(3, 2), true);
        Check.due("over two keys to 0", x.canReach(3, 0), true);
        x.tighten(2, 6);
        Check.due("the first wrap cannot be made", x.canReach(3, 0), false);
        Check.due("but at 1 it can be unwrapped no more", x.canReach(3, 1), false);
        Check.due("isSound", x.isSound(), true);
    }

    private static int yOf(int x, int secret, int needed, int before) {
        long y = secret;
        for (int i = 1; i < needed; i++) {
            long coefficient = (secret * (i + 3) + 7 * i * i + before) % 251;
            y += Math.round(Math.pow(x, i)) * coefficient;
        }
        return (int) (y % 251);
    }

    /** Key 0, whose secret is 10, is shared among the persons 0, 1 and 3, of whom 2 are needed. */
    private static Keyceremony shared() {
        Keyceremony x = keyed();
        Check.due("share", x.share(0, 0, 2, 11), 3);
        return x;
    }

    private static void promise21() {
        Keyceremony x = shared();
        Check.due("card of 0", x.card(0, 0), yOf(1, 10, 2, 0));
        Check.due("card of 3", x.card(3, 0), yOf(4, 10, 2, 0));
        Check.due("share anew", x.share(1, 0, 4, 15), 4);
        for (int person = 0; person < 4; person++) {
            Check.due("card of " + person, x.card(person, 0), yOf(person + 1, 10, 4, 1));
        }
        Check.due("share once more", x.share(0, 0, 3, 7), 3);
        Check.due("card of 2", x.card(2, 0), yOf(3, 10, 3, 2));
        Check.due("another key's count", x.share(0, 1, 2, 3), 2);
        Check.due("card of 1", x.card(1, 1), yOf(2, 7 + 13 + 10, 2, 0));
        Check.due("kind", x.actAt(x.acts() - 1), 's');
        Check.refused("no device", WrapsAndCardsTest::keyed, y -> y.share(2, 0, 1, 3), INDEX);
        Check.refused("no key", WrapsAndCardsTest::keyed, y -> y.share(0, 6, 1, 3), INDEX);
        Check.refused("needs 1", WrapsAndCardsTest::keyed, y -> y.share(0, 0, 1, 3), ARGUMENT);
        Check.refused("needs 5", WrapsAndCardsTest::keyed, y -> y.share(0, 0, 5, 15), ARGUMENT);
        Check.refused("no person 4", WrapsAndCardsTest::keyed, y -> y.share(0, 0, 2, 19), ARGUMENT);
        Check.refused("persons -1", WrapsAndCardsTest::keyed, y -> y.share(0, 0, 2, -1), ARGUMENT);
        Check.refused("lowest persons", WrapsAndCardsTest::keyed, y -> y.share(0, 0, 2, Integer.MIN_VALUE + 3), ARGUMENT);
        Check.refused("too few", WrapsAndCardsTest::keyed, y -> y.share(1, 1, 3, 6), ARGUMENT);
        Check.refused("nobody", WrapsAndCardsTest::keyed, y -> y.share(0, 0, 2, 0), ARGUMENT);
        Supplier<Keyceremony> forbidden = () -> forbidden('s', WrapsAndCardsTest::keyed);
        Check.refused("no copy", forbidden, y -> y.share(1, 1, 2, 3), UNSUPPORTED);
        Check.refused("forbidden", forbidden, y -> y.share(0, 0, 2, 3), STATE);
    }

    private static void promise22() {
        Keyceremony x = shared();
        Check.due("card 1 0", x.card(1, 0), yOf(2, 10, 2, 0));
        Check.refused("no person", WrapsAndCardsTest::shared, y -> y.card(4, 0), INDEX);
        Check.refused("person -1", WrapsAndCardsTest::shared, y -> y.card(-1, 0), INDEX);
        Check.refused("no key", WrapsAndCardsTest::shared, y -> y.card(0, 6), INDEX);
        Check.refused("no card", WrapsAndCardsTest::shared, y -> y.card(2, 0), NONE_SUCH);
        Check.refused("never shared", WrapsAndCardsTest::shared, y -> y.card(0, 1), NONE_SUCH);
        Supplier<Keyceremony> anew = () -> {
            Keyceremony y = shared();
            y.share(0, 0, 2, 6);
            return y;
        };
        Check.refused("one of an earlier sharing", anew, y -> y.card(0, 0), NONE_SUCH);
    }

    private static void promise23() {
        Keyceremony x = shared();
        Check.due("falsify", x.falsify(0, 0, 250), yOf(1, 10, 2, 0));
        Check.due("card", x.card(0, 0), 250);
        Check.due("falsify anew", x.falsify(0, 0, 0), 250);
        Check.due("the others stay", x.card(1, 0), yOf(2, 10, 2, 0));
        Check.refused("no person", WrapsAndCardsTest::shared, y -> y.falsify(4, 0, 251), INDEX);
        Check.refused("no key", WrapsAndCardsTest::shared, y -> y.falsify(0, 6, 251), INDEX);
        Check.refused("y 251", WrapsAndCardsTest::shared, y -> y.falsify(2, 0, 251), ARGUMENT);
        Check.refused("y -1", WrapsAndCardsTest::shared, y -> y.falsify(0, 0, -1), ARGUMENT);
        Check.refused("no card", WrapsAndCardsTest::shared, y -> y.falsify(2, 0, 1), NONE_SUCH);
    }

    /** All persons are at device 1, where key 0 was destroyed. */
    private static Keyceremony gathered() {
        Keyceremony x = shared();
        x.destroy(1, 0);
        for (int person = 0; person < 4; person++) {
            x.logIn(person, 1);
        }
        return x;
    }

    private static void promise24() {
        Keyceremony x = gathered();
        int acts = x.acts();
        Check.due("recover", x.recover(1, 0), true);
        Check.due("has 1 0", x.has(1, 0), true);
        Check.due("acts", x.acts(), acts + 1);
        Check.due("kind", x.actAt(acts), 'u');
        Check.due("persons", x.personsAt(acts), 15);
        x.zeroise(0);
        x.trust(0, 1, true);
        Check.due("it is forgotten that it was destroyed", x.follow(0, 1), 1);
        Keyceremony y = gathered();
        y.falsify(3, 0, 0);
        Check.due("the third card is not needed", y.recover(1, 0), true);
        y.falsify(1, 0, (y.card(1, 0) + 1) % 251);
        acts = y.acts();
        Check.due("a false one", y.recover(1, 0), false);
        Check.due("the copy stays", y.has(1, 0), true);
        Check.due("acts", y.acts(), acts + 1);
        y.destroy(1, 0);
        Check.due("a false one gives none", y.recover(1, 0), false);
        Check.due("has 1 0", y.has(1, 0), false);
        y.logIn(1, 0);
        Check.due("0 and 3", y.recover(1, 0), false);
        y.falsify(3, 0, yOf(4, 10, 2, 0));
        Check.due("0 and 3, truly", y.recover(1, 0), true);
        Supplier<Keyceremony> tooFew = () -> {
            Keyceremony z = gathered();
            z.logIn(0, 0);
            z.logIn(1, -1);
            z.setRule('u', 8, -1);
            return z;
        };
        Check.refused("too few", tooFew, z -> z.recover(1, 0), UNSUPPORTED);
        Check.refused("never shared", WrapsAndCardsTest::gathered, z -> z.recover(1, 1), UNSUPPORTED);
        Check.refused("no device", WrapsAndCardsTest::gathered, z -> z.recover(2, 0), INDEX);
        Check.refused("no key", WrapsAndCardsTest::gathered, z -> z.recover(1, 6), INDEX);
        Supplier<Keyceremony> forbidden = () -> {
            Keyceremony z = gathered();
            z.setRule('u', 5, -1);
            return z;
        };
        Check.refused("forbidden", forbidden, z -> z.recover(1, 0), STATE);
    }

    /** Two false cards can tell the secret all the same, as they lie on another line through it. */
    private static void twoFalseCards() {
        Keyceremony x = gathered();
        x.falsify(0, 0, 11);
        x.falsify(1, 0, 12);
        Check.due("another line through the secret", x.recover(1, 0), true);
    }

    private static void recoverByFour() {
        Keyceremony x = keyed();
        for (int person = 4; person < 8; person++) {
            x.addPerson(0);
        }
        x.share(0, 2, 4, 0xEC);
        for (int person = 0; person < 8; person++) {
            x.logIn(person, 1);
        }
        Check.due("cards of 2, 3, 5 and 6", x.recover(1, 2), true);
        x.falsify(7, 2, 0);
        Check.due("7 is not asked", x.recover(1, 2), true);
        x.falsify(6, 2, (x.card(6, 2) + 250) % 251);
        Check.due("6 is", x.recover(1, 2), false);
    }

    public static void main(String[] args) {
        promise18();
        promise19();
        promise20();
        longReach();
        promise21();
        promise22();
        promise23();
        promise24();
        twoFalseCards();
        recoverByFour();
        Check.end("WrapsAndCardsTest");
    }
}
