/** Promises 21 to 24, and what the terms say of cards. */
public final class CardsTest {
    /** Two devices, four persons; key 0 at device 0 has the secret 10, key 1 at device 1 the secret 38. */
    private static final String KEYED = """
            addDevice() = 0
            addDevice() = 1
            trust(0, 1, true) = false
            addPerson(0) = 0
            addPerson(1) = 1
            addPerson(2) = 2
            addPerson(0) = 3
            generate(0, 2, 15, 10, 5) = 0
            generate(1, 3, 15, 10, 5) = 1
            """;
    private static final int SECRET = 10;
    private static final int OTHER_SECRET = 38;

    /** Key 0 is shared among the persons 0, 1 and 3, two of whom are needed. */
    private static final String SHARED = KEYED + "share(0, 0, 2, 11) = 3\n";

    private static String cards(int key, int persons, int secret, int needed, int sharedBefore) {
        return Story.lines(0, 7, person -> (persons >> person & 1) == 0 ? "" : "card(" + person + ", " + key + ") = "
                + Formulas.card(person, secret, needed, sharedBefore));
    }

    private static String eightPersons() {
        return KEYED + Story.lines(4, 7, person -> "addPerson(0) = " + person);
    }

    private static void promise21() {
        Story.tell("21: a card has the y of its person", KEYED, """
                share(0, 0, 2, 3) = 2
                card(0, 0) = 57
                card(1, 0) = 104
                share(0, 0, 3, 7) = 3
                card(0, 0) = 137
                card(1, 0) = 171
                card(2, 0) = 112
                """);
        for (int needed = 2; needed <= 4; needed++) {
            String number = needed + ", ";
            Story.tell("21: " + needed + " of 8 persons", eightPersons(), "share(0, 0, " + number + "255) = 8",
                    cards(0, 255, SECRET, needed, 0), "share(1, 1, " + number + "255) = 8",
                    cards(1, 255, OTHER_SECRET, needed, 0));
        }
        Story.tell("Terms: how often this key was shared before", KEYED, "share(0, 0, 2, 15) = 4", "share(0, 0, 4, 15) = 4",
                cards(0, 15, SECRET, 4, 1), "share(1, 1, 3, 15) = 4", cards(1, 15, OTHER_SECRET, 3, 0), "share(0, 0, 3, 7) = 3",
                cards(0, 7, SECRET, 3, 2), cards(1, 15, OTHER_SECRET, 3, 0));
        Story.tell("Terms: shared over and over, the count goes round at 251", KEYED,
                Story.lines(0, 250, times -> "share(0, 0, 4, 15) = 4"), cards(0, 15, SECRET, 4, 250),
                "share(0, 0, 4, 15) = 4", cards(0, 15, SECRET, 4, 251), "share(0, 0, 4, 15) = 4", cards(0, 15, SECRET, 4, 252));
        Story.tell("Terms: the count is of the key, at whatever device", KEYED, "follow(1, 0) = 1", "share(0, 0, 2, 3) = 2",
                "share(1, 0, 2, 3) = 2", cards(0, 3, SECRET, 2, 1));
        Story.tell("Terms: a sharing that is refused is not counted", KEYED, "share(0, 0, 2, 1) throws IllegalArgumentException",
                "setRule(s, 1, -1) = 0", "share(0, 0, 2, 3) throws IllegalStateException", "setRule(s, 0, -1) = 1",
                "share(0, 0, 2, 3) = 2", cards(0, 3, SECRET, 2, 0));
        Story.tell("21: persons need not be logged in, nor the key be active", KEYED, "advance(500) = 500",
                "tighten(0, 0) = 0", "share(0, 0, 2, 3) = 2", cards(0, 3, SECRET, 2, 0));
        Story.tell("21: as many persons as are needed", KEYED, "share(0, 0, 2, 12) = 2", "share(0, 0, 3, 13) = 3",
                "share(0, 0, 4, 15) = 4", "share(0, 0, 2, 15) = 4");
        Story.tell("21: the secrets 250 and 0", "addDevice()\naddDevice()\naddDevice()\naddPerson(0)\naddPerson(0)",
                Story.lines(0, 4, key -> "generate(0, 1, 0, 1, 0)"), "generate(0, 2, 0, 1, 0) = 5", "share(0, 5, 2, 3) = 2",
                cards(5, 3, 250, 2, 0), "zeroise(0) = 6", "logIn(0, 0)\nlogIn(1, 0)", "recover(0, 5) = true");
    }

    /** Each key that is derived in a row has another secret. */
    private static void cardsOfDerived() {
        StringBuilder calls = new StringBuilder(KEYED + "logIn(0, 0)\nlogIn(1, 0)\nlogIn(2, 0)\nlogIn(3, 0)\n");
        int secret = SECRET;
        for (int key = 2; key < 24; key++) {
            int parent = key == 2 ? 0 : key - 1;
            int label = key * 4 + 3;
            int needed = 2 + key % 3;
            secret = Formulas.derived(secret, label);
            calls.append("derive(0, ").append(parent).append(", ").append(label).append(", 15) = ").append(key)
                    .append("\nshare(0, ").append(key).append(", ").append(needed).append(", 15) = 4\n")
                    .append(cards(key, 15, secret, needed, 0));
        }
        calls.append("zeroise(0) = 23\n").append(Story.lines(0, 23, key -> key < 2 ? "" : "recover(0, " + key + ") = true"));
        Story.tell("21, 24: cards of a derived key tell its secret", calls.toString());
        Story.tell("21, 24: cards of a key behind another one tell its secret, not that of the other one", KEYED, """
                rotate(0, 0) = 2
                share(0, 0, 2, 3) = 2
                share(0, 2, 2, 3) = 2
                """, cards(0, 3, SECRET, 2, 0), cards(2, 3, Formulas.generated(2, 2, 0), 2, 0), """
                zeroise(0) = 2
                logIn(0, 0) = -1
                logIn(1, 0) = -1
                recover(0, 2) = true
                has(0, 0) = false
                recover(0, 0) = true
                """);
    }

    private static void shareRefused() {
        Story.tell("21: there is no such device, or key", KEYED, Story.each(Story.INDEX, "share(2, 0, 2, 3)",
                "share(-1, 0, 2, 3)", "share(0, 2, 2, 3)", "share(0, -1, 2, 3)", "share(2147483647, 0, 2, 3)",
                "share(0, 2147483647, 2, 3)", "share(-2147483648, 0, 2, 3)", "share(0, -2147483648, 2, 3)"));
        Story.tell("21: 2 to 4 cards are needed", eightPersons(), Story.each(Story.ARGUMENT, "share(0, 0, 1, 255)",
                "share(0, 0, 5, 255)", "share(0, 0, 0, 255)", "share(0, 0, -1, 255)", "share(0, 0, 2147483647, 255)",
                "share(0, 0, -2147483648, 255)"), "share(0, 0, 4, 255) = 8");
        Story.tell("21: there is no such person", KEYED, Story.each(Story.ARGUMENT, "share(0, 0, 2, 16)",
                "share(0, 0, 2, 17)", "share(0, 0, 2, 19)", "share(0, 0, 2, 31)", "share(0, 0, 2, -1)", "share(0, 0, 2, 2147483647)",
                "share(0, 0, 2, -2147483648)", "share(0, 0, 2, -2147483645)", "share(0, 0, 2, 67108867)"), "share(0, 0, 2, 15) = 4");
        Story.tell("21: there is no such person of eight", eightPersons(),
                Story.each(Story.ARGUMENT, "share(0, 0, 2, 256)", "share(0, 0, 2, 257)", "share(0, 0, 2, 259)", "share(0, 0, 2, 511)"), "share(0, 0, 2, 192) = 2");
        Story.tell("21: there are fewer persons than are needed", KEYED, Story.each(Story.ARGUMENT, "share(0, 0, 2, 0)",
                "share(0, 0, 2, 1)", "share(0, 0, 2, 8)", "share(0, 0, 3, 5)", "share(0, 0, 4, 14)"));
        Story.tell("21: the device has no copy", KEYED, Story.each(Story.UNSUPPORTED, "share(1, 0, 2, 3)", "share(0, 1, 2, 3)"),
                "destroy(0, 0) = 0", Story.each(Story.UNSUPPORTED, "share(0, 0, 2, 3)"));
        Story.tell("21: the rule does not permit it", KEYED, "setRule(s, 1, -1) = 0", Story.each(Story.STATE, "share(0, 0, 2, 3)"));
        Story.tell("21: the exceptions in their order", SHARED, "setRule(s, 1, -1) = 0",
                Story.each(Story.INDEX, "share(2, 0, 1, 3)", "share(0, 2, 2, 16)", "share(2, 2, 2, 1)", "share(-1, 1, 2, 3)",
                        "share(0, 2, 1, 3)", "share(0, -1, 5, 15)", "share(0, 2, 3, 3)"),
                Story.each(Story.ARGUMENT, "share(1, 0, 1, 3)", "share(1, 0, 2, 16)", "share(1, 0, 2, 1)",
                        "share(0, 0, 5, 15)", "share(0, 0, 2, 16)", "share(0, 0, 3, 3)"),
                Story.each(Story.UNSUPPORTED, "share(1, 0, 2, 3)", "share(0, 1, 2, 3)"));
    }

    private static void promise22() {
        Story.tell("22: the y of a card", SHARED, cards(0, 11, SECRET, 2, 0));
        Story.tell("22: there is no such person, or key", SHARED, Story.each(Story.INDEX, "card(4, 0)", "card(-1, 0)",
                "card(0, 2)", "card(0, -1)", "card(2147483647, 0)", "card(0, 2147483647)", "card(-2147483648, 0)",
                "card(0, -2147483648)", "card(4, 1)"));
        Story.tell("22: the person has none of its last sharing", SHARED, Story.each(Story.NONE_SUCH, "card(2, 0)", "card(0, 1)"));
        Story.tell("Terms: cards of an earlier sharing are worth nothing", SHARED, "share(0, 0, 2, 6) = 2",
                Story.each(Story.NONE_SUCH, "card(0, 0)", "card(3, 0)"), cards(0, 6, SECRET, 2, 1));
        Story.tell("22: a card stays when its key is destroyed, or has expired", SHARED, "zeroise(0) = 1", "advance(500) = 500",
                cards(0, 11, SECRET, 2, 0));
    }

    private static void promise23() {
        Story.tell("23: the y before, and the y from now on", SHARED, """
                falsify(0, 0, 250) = 57
                card(0, 0) = 250
                falsify(0, 0, 0) = 250
                card(0, 0) = 0
                card(1, 0) = 104
                falsify(0, 0, 57) = 0
                card(0, 0) = 57
                """);
        Story.tell("23: a falsified card of another key stays", SHARED, "share(1, 1, 2, 3) = 2", "falsify(0, 1, 5)",
                "card(0, 0) = 57", "falsify(1, 0, 6) = 104", "card(0, 1) = 5");
        Story.tell("23: a card of each of 24 keys", KEYED, Story.lines(2, 23, key -> "generate(0, 1, 0, 1, 0) = " + key),
                "follow(0, 1) = 1", Story.lines(0, 23, key -> "share(0, " + key + ", 2, 9) = 2"),
                Story.lines(0, 23, key -> "falsify(3, " + key + ", " + key * 10 + ")"),
                Story.lines(0, 23, key -> "card(3, " + key + ") = " + key * 10),
                Story.lines(0, 23, key -> "card(0, " + key + ") = " + Formulas.card(0, key == 0 ? SECRET
                        : key == 1 ? OTHER_SECRET : Formulas.generated(key, 1, 0), 2, 0)));
        Story.tell("23: y is 0 to 250", SHARED, Story.each(Story.ARGUMENT, "falsify(0, 0, 251)", "falsify(0, 0, -1)",
                "falsify(0, 0, 2147483647)", "falsify(0, 0, -2147483648)"), "card(0, 0) = 57");
        Story.tell("23: there is no such person, or key", SHARED, Story.each(Story.INDEX, "falsify(4, 0, 1)",
                "falsify(-1, 0, 1)", "falsify(0, 2, 1)", "falsify(0, -1, 1)", "falsify(2147483647, 0, 1)",
                "falsify(0, 2147483647, 1)", "falsify(-2147483648, 0, 1)", "falsify(0, -2147483648, 1)"));
        Story.tell("23: the person has none of its last sharing", SHARED,
                Story.each(Story.NONE_SUCH, "falsify(2, 0, 1)", "falsify(0, 1, 1)"), "share(0, 0, 2, 6) = 2",
                Story.each(Story.NONE_SUCH, "falsify(0, 0, 1)", "falsify(3, 0, 1)"));
        Story.tell("23: the exceptions in their order", SHARED,
                Story.each(Story.INDEX, "falsify(4, 0, 251)", "falsify(0, 2, -1)", "falsify(4, 1, 1)"),
                Story.each(Story.ARGUMENT, "falsify(2, 0, 251)", "falsify(0, 1, -1)"));
        Story.tell("23: it is no act, and a new sharing makes true cards", SHARED, "acts() = 3", "falsify(0, 0, 0) = 57",
                "acts() = 3", "share(0, 0, 2, 11) = 3", cards(0, 11, SECRET, 2, 1));
    }

    /** All persons are at device 1, where key 0 was destroyed. */
    private static final String GATHERED = SHARED + """
            follow(1, 0) = 1
            destroy(1, 0) = 1
            logIn(0, 1) = -1
            logIn(1, 1) = -1
            logIn(2, 1) = -1
            logIn(3, 1) = -1
            """;

    private static void promise24() {
        Story.tell("24: the device has a copy then", GATHERED, "has(1, 0) = false", "recover(1, 0) = true", "has(1, 0) = true",
                "recover(1, 0) = true", "actAt(6) = u", "personsAt(6) = 15", "acts() = 7");
        Story.tell("Terms: the device forgets that it destroyed the key", GATHERED, "recover(1, 0) = true", "follow(0, 1) = 1",
                "has(0, 0) = true", "zeroise(1) = 2", "follow(1, 0) = 2");
        Story.tell("Terms: another device does not forget it", GATHERED, "destroy(0, 0) = 0", "recover(1, 0) = true",
                "has(0, 0) = false", "follow(0, 1) = 1", "has(0, 0) = false");
        Story.tell("24: a false card tells nothing, and the act is done", GATHERED, """
                falsify(0, 0, 58) = 57
                acts() = 5
                recover(1, 0) = false
                has(1, 0) = false
                acts() = 6
                actAt(5) = u
                personsAt(5) = 15
                follow(1, 0) = 0
                has(1, 0) = false
                """);
        Story.tell("24: by false cards a copy that is there stays", GATHERED, "recover(1, 0) = true", "falsify(0, 0, 58) = 57",
                "recover(1, 0) = false", "has(1, 0) = true");
        Story.tell("24: a card that is true again", GATHERED, "falsify(0, 0, 0) = 57", "recover(1, 0) = false",
                "falsify(0, 0, 57) = 0", "recover(1, 0) = true");
        Story.tell("Terms: those with the lowest numbers, as many as are needed", GATHERED, """
                falsify(3, 0, 0)
                recover(1, 0) = true
                falsify(1, 0, 0) = 104
                recover(1, 0) = false
                logIn(1, -1) = 1
                recover(1, 0) = false
                logIn(3, -1) = 1
                recover(1, 0) throws UnsupportedOperationException
                """);
        Story.tell("Terms: a person without a card is passed over", KEYED, "share(0, 0, 3, 14) = 3",
                Story.lines(0, 3, person -> "logIn(" + person + ", 1) = -1"), "recover(1, 0) = true", "has(1, 0) = true");
        Story.tell("Terms: false cards on another line through the secret tell it", GATHERED, "falsify(0, 0, 11) = 57",
                "falsify(1, 0, 12) = 104", "recover(1, 0) = true", "has(1, 0) = true");
        Story.tell("Terms: the persons are logged in at the device", GATHERED, "logIn(0, 0) = 1", "logIn(1, -1) = 1",
                Story.each(Story.UNSUPPORTED, "recover(1, 0)", "recover(0, 0)"), "logIn(3, 0) = 1", "recover(0, 0) = true");
        Story.tell("Terms: the key may have expired, and have no copy", GATHERED, "zeroise(0) = 1", "advance(500) = 500",
                "recover(1, 0) = true", "has(1, 0) = true", "stage(0) = x");
        Story.tell("Terms: a recovered key has the flags that it has", GATHERED, "tighten(0, 4) = 4", "recover(1, 0) = true",
                "flags(0) = 4");
        Story.tell("Terms: it takes the cards of the last sharing", GATHERED, "share(0, 0, 3, 12) throws IllegalArgumentException",
                "share(0, 0, 3, 14) = 3", "recover(1, 0) = true", "destroy(1, 0) = 1", "logIn(3, 0) = 1",
                "recover(1, 0) throws UnsupportedOperationException", "logIn(3, 1) = 0", "recover(1, 0) = true");
    }

    /** All choices of persons who are logged in, of 8 with cards for 2, 3 or 4. */
    private static void recoverByChoices() {
        for (int needed = 2; needed <= 4; needed++) {
            String share = "share(0, 0, " + needed + ", 255) = 8";
            for (int there = 0; there < 256; there += 1 + needed) {
                int many = Integer.bitCount(there);
                int choice = there;
                Story.tell("24: the persons " + there + ", " + needed + " are needed", eightPersons(), share,
                        Story.lines(0, 7, person -> (choice >> person & 1) == 0 ? "" : "logIn(" + person + ", 1) = -1"),
                        many >= needed ? "recover(1, 0) = true\nhas(1, 0) = true"
                                : "recover(1, 0) throws UnsupportedOperationException\nhas(1, 0) = false");
            }
        }
        for (int wrong = 0; wrong < 8; wrong++) {
            int person = wrong;
            Story.tell("24: by 4 of the persons 1, 2, 4, 5 and 7, with the false card of " + wrong, eightPersons(),
                    "share(0, 0, 4, 255) = 8", "falsify(" + person + ", 0, "
                            + (Formulas.card(person, SECRET, 4, 0) + 250) % 251 + ")",
                    "logIn(1, 1)\nlogIn(2, 1)\nlogIn(4, 1)\nlogIn(5, 1)\nlogIn(7, 1)",
                    "recover(1, 0) = " + (wrong == 0 || wrong == 3 || wrong >= 6));
        }
    }

    private static void recoverRefused() {
        Story.tell("24: there is no such device, or key", GATHERED, Story.each(Story.INDEX, "recover(2, 0)", "recover(-1, 0)",
                "recover(1, 2)", "recover(1, -1)", "recover(2147483647, 0)", "recover(1, 2147483647)",
                "recover(-2147483648, 0)", "recover(1, -2147483648)"));
        Story.tell("24: there are too few cards", GATHERED, Story.each(Story.UNSUPPORTED, "recover(0, 0)", "recover(1, 1)"),
                "logIn(0, -1) = 1", "recover(1, 0) = true", "logIn(3, -1) = 1", Story.each(Story.UNSUPPORTED, "recover(1, 0)"),
                "logIn(1, -1) = 1", Story.each(Story.UNSUPPORTED, "recover(1, 0)"));
        Story.tell("24: cards of an earlier sharing are too few", GATHERED, "share(0, 0, 2, 6) = 2", "logIn(2, 0) = 1",
                Story.each(Story.UNSUPPORTED, "recover(1, 0)"));
        Story.tell("24: the rule does not permit it", GATHERED, "setRule(u, 5, -1) = 0", Story.each(Story.STATE, "recover(1, 0)"),
                "setRule(u, 4, 2) = 5", "recover(1, 0) = true");
        Story.tell("24: the exceptions in their order", GATHERED, "setRule(u, 8, 2) = 0",
                Story.each(Story.INDEX, "recover(2, 0)", "recover(1, 2)", "recover(2, 1)", "recover(2, 2)"),
                Story.each(Story.UNSUPPORTED, "recover(0, 0)", "recover(1, 1)"), Story.each(Story.STATE, "recover(1, 0)"));
    }

    public static void main(String[] args) {
        promise21();
        cardsOfDerived();
        shareRefused();
        promise22();
        promise23();
        promise24();
        recoverByChoices();
        recoverRefused();
        Story.end("CardsTest");
    }
}
