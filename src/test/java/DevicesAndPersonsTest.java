/** Promises 1 to 7, and what the terms say of persons and quorums. */
public final class DevicesAndPersonsTest {
    private static final String FOUR_DEVICES = """
            addDevice() = 0
            addDevice() = 1
            addDevice() = 2
            addDevice() = 3
            """;

    /** Persons of the roles 0, 1, 1, 2 at two devices: the first two at device 0, the third at 1, the last at none. */
    private static final String MANNED = """
            addDevice() = 0
            addDevice() = 1
            addPerson(0) = 0
            addPerson(1) = 1
            addPerson(1) = 2
            addPerson(2) = 3
            logIn(0, 0) = -1
            logIn(1, 0) = -1
            logIn(2, 1) = -1
            """;

    private static final String EIGHT_PERSONS = MANNED + """
            addPerson(0) = 4
            addPerson(1) = 5
            addPerson(2) = 6
            addPerson(0) = 7
            """;

    private static void promise1() {
        Story.tell("1: a new house has no devices", Story.each(Story.INDEX, "isPermitted(g, 0)", "zeroise(0)",
                "trust(0, 1, true)", "follow(0, 1)", "generate(0, 1, 0, 1, 0)"));
        Story.tell("1: a new house has no persons", "addDevice() = 0",
                Story.each(Story.INDEX, "logIn(0, -1)", "logIn(0, 0)", "card(0, 0)", "falsify(0, 0, 0)"),
                "generate(0, 1, 0, 1, 0) = 0", Story.each(Story.ARGUMENT, "share(0, 0, 2, 3)", "share(0, 0, 2, 1)"));
        Story.tell("1: a new house has no keys", "addDevice() = 0", "addPerson(0) = 0",
                Story.each(Story.INDEX, "flags(0)", "stage(0)", "tighten(0, 0)", "has(0, 0)", "derive(0, 0, 0, 0)",
                        "rotate(0, 0)", "destroy(0, 0)", "wrap(0, 0, 1)", "canReach(0, 0)", "share(0, 0, 2, 1)",
                        "card(0, 0)", "falsify(0, 0, 0)", "recover(0, 0)", "encipher(0, 0, 0)"),
                "generate(0, 1, 0, 1, 0) = 0");
        Story.tell("1: a new house has no wraps and messages", "addDevice() = 0", "generate(0, 1, 15, 1, 0) = 0",
                Story.each(Story.INDEX, "unwrap(0, 0)", "cipher(0)", "read(0, 0)", "renew(0, 0)"));
        Story.tell("1: a new house has done no acts", "acts() = 0", "head() = 7",
                Story.each(Story.NONE_SUCH, "actAt(0)", "personsAt(0)"));
        Story.tell("1: a new house has no figures, and is sound",
                Story.each(Story.ARITHMETIC, "activeShare()", "meanCopies()"), "isSound() = true");
        Story.tell("Terms, Time: it is the day 0 at first", "advance(1) = 1");
    }

    private static void promise2() {
        Story.tell("2: at most 4 devices are numbered from 0", FOUR_DEVICES, "addDevice() throws IllegalStateException",
                "addDevice() throws IllegalStateException", "isPermitted(g, 3) = true", "zeroise(3) = 0",
                Story.each(Story.INDEX, "isPermitted(g, 4)", "zeroise(4)"));
        Story.tell("2: a device is there only when it was added", "addDevice() = 0",
                Story.each(Story.INDEX, "isPermitted(g, 1)", "trust(0, 1, true)"),
                "addDevice() = 1", "isPermitted(g, 1) = true", "trust(0, 1, true) = false");
    }

    private static void promise3() {
        Story.tell("3: at first no devices trust each other", FOUR_DEVICES, """
                trust(0, 1, false) = false
                trust(0, 2, false) = false
                trust(0, 3, false) = false
                trust(1, 2, false) = false
                trust(1, 3, false) = false
                trust(2, 3, false) = false
                """);
        Story.tell("3: trust is told, and answers whether they did", FOUR_DEVICES, """
                trust(0, 1, true) = false
                trust(0, 1, true) = true
                trust(0, 1, false) = true
                trust(0, 1, false) = false
                trust(0, 1, true) = false
                """);
        Story.tell("3: two devices trust each other, whichever is told first", FOUR_DEVICES, """
                trust(3, 0, true) = false
                trust(0, 3, true) = true
                trust(0, 3, false) = true
                trust(3, 0, false) = false
                """);
        Story.tell("3: two devices trust each other, and no others", FOUR_DEVICES, """
                trust(1, 2, true) = false
                trust(0, 1, false) = false
                trust(0, 2, false) = false
                trust(1, 3, true) = false
                trust(2, 3, false) = false
                trust(1, 2, false) = true
                trust(1, 3, false) = true
                """);
        Story.tell("3: there is no such device, for either", MANNED, Story.each(Story.INDEX, "trust(2, 0, true)",
                "trust(0, 2, true)", "trust(-1, 0, true)", "trust(0, -1, true)", "trust(-2147483648, 0, true)",
                "trust(0, -2147483648, true)", "trust(2147483647, 0, true)", "trust(1, 2147483647, false)"));
        Story.tell("3: both are the same", MANNED,
                Story.each(Story.ARGUMENT, "trust(0, 0, true)", "trust(1, 1, true)", "trust(1, 1, false)"));
        Story.tell("3: no such device comes before both the same", MANNED,
                Story.each(Story.INDEX, "trust(2, 2, true)", "trust(-1, -1, true)"));
    }

    private static void promise4() {
        Story.tell("4: at most 8 persons are numbered from 0", EIGHT_PERSONS,
                Story.each(Story.STATE, "addPerson(0)", "addPerson(1)", "addPerson(2)"),
                "logIn(7, 0) = -1", "logIn(8, 0) throws IndexOutOfBoundsException");
        Story.tell("4: the roles are 0 to 2", "addPerson(0) = 0", "addPerson(1) = 1", "addPerson(2) = 2",
                Story.each(Story.ARGUMENT, "addPerson(3)", "addPerson(-1)", "addPerson(2147483647)",
                        "addPerson(-2147483648)"), "addPerson(2) = 3");
        Story.tell("4: no such role comes before 8 persons", EIGHT_PERSONS,
                Story.each(Story.ARGUMENT, "addPerson(3)", "addPerson(-1)"));
        Story.tell("4: each person has the own role", "addDevice() = 0", "addPerson(2) = 0", "addPerson(0) = 1",
                "addPerson(1) = 2", "logIn(1, 0) = -1", "setRule(g, 0, 0) = 0", "isPermitted(g, 0) = true",
                "setRule(g, 0, 1) = 0", "isPermitted(g, 0) = false", "logIn(2, 0) = -1", "isPermitted(g, 0) = true",
                "setRule(g, 0, 2) = 0", "isPermitted(g, 0) = false", "logIn(0, 0) = -1", "isPermitted(g, 0) = true");
    }

    private static void promise5() {
        Story.tell("5: at first a person is logged in at no device", EIGHT_PERSONS, """
                logIn(3, -1) = -1
                logIn(4, 0) = -1
                logIn(7, 1) = -1
                """);
        Story.tell("5: a person is logged in at one device, or none", MANNED, """
                logIn(3, 0) = -1
                logIn(3, 1) = 0
                logIn(3, 1) = 1
                logIn(3, 0) = 1
                logIn(3, -1) = 0
                logIn(3, -1) = -1
                logIn(3, 1) = -1
                """);
        Story.tell("5: who is logged in at another device is there no more", MANNED, """
                setRule(g, 2, -1) = 0
                isPermitted(g, 0) = true
                isPermitted(g, 1) = false
                logIn(1, 1) = 0
                isPermitted(g, 0) = false
                isPermitted(g, 1) = true
                logIn(2, -1) = 1
                isPermitted(g, 1) = false
                """);
        Story.tell("5: each person is logged in alone", MANNED, """
                logIn(0, 1) = 0
                logIn(1, -1) = 0
                logIn(2, 0) = 1
                logIn(0, -1) = 1
                """);
        Story.tell("5: there is no such person", MANNED, Story.each(Story.INDEX, "logIn(4, 0)", "logIn(-1, 0)",
                "logIn(4, -1)", "logIn(2147483647, 0)", "logIn(-2147483648, 0)"));
        Story.tell("5: there is no such device", MANNED, Story.each(Story.INDEX, "logIn(0, 2)", "logIn(0, -2)",
                "logIn(3, 2)", "logIn(0, 2147483647)", "logIn(0, -2147483648)"));
    }

    private static void promise6() {
        Story.tell("6: at first the rules are of 0 persons", Story.lines(0, 5, kind -> setRule(kind, 8, 2, 0)));
        Story.tell("6: each kind has a rule of its own", Story.lines(0, 5, kind -> setRule(kind, kind + 1, -1, 0)),
                Story.lines(0, 5, kind -> setRule(kind, 8, -1, kind + 1)), Story.lines(0, 5, kind -> setRule(kind, 0, 2, 8)));
        Story.tell("6: how many persons, 0 to 8", MANNED, "setRule(g, 8, -1) = 0", "setRule(g, 0, -1) = 8",
                "setRule(g, 4, 1) = 0", Story.each(Story.ARGUMENT, "setRule(g, 9, -1)", "setRule(g, -1, -1)",
                        "setRule(g, 2147483647, -1)", "setRule(g, -2147483648, -1)"), "setRule(g, 0, -1) = 4");
        Story.tell("6: the role, or -1 for none", MANNED, "setRule(g, 0, 2) = 0", "setRule(g, 1, -1) = 0",
                "setRule(g, 2, 0) = 1", Story.each(Story.ARGUMENT, "setRule(g, 0, 3)", "setRule(g, 0, -2)",
                        "setRule(g, 0, 2147483647)", "setRule(g, 0, -2147483648)"), "setRule(g, 0, -1) = 2");
        Story.tell("6: there is no such kind", MANNED, Story.each(Story.ARGUMENT, "setRule(x, 0, -1)", "setRule(G, 0, -1)",
                "setRule(a, 0, -1)", "setRule(#0, 0, -1)", "setRule(#65535, 0, -1)", "setRule(#359, 0, -1)"));
        Keyceremony house = new Keyceremony();
        house.addDevice();
        for (char kind = 0; kind < 400; kind++) {
            boolean isOne = "gwudsc".indexOf(kind) >= 0;
            Story.due("7: the kinds are six, not " + (int) kind, new Call("isPermitted(#" + (int) kind + ", 0)").on(house),
                    isOne ? "true" : "throws IllegalArgumentException");
        }
    }

    private static String setRule(int kind, int many, int role, int before) {
        return String.format("setRule(%c, %d, %d) = %d", "gwudsc".charAt(kind), many, role, before);
    }

    private static void promise7() {
        Story.tell("7: at first all is permitted everywhere", FOUR_DEVICES, Story.lines(0, 23,
                number -> String.format("isPermitted(%c, %d) = true", "gwudsc".charAt(number / 4), number % 4)));
        Story.tell("7: so many persons at least are logged in at the device", MANNED, """
                setRule(g, 1, -1) = 0
                isPermitted(g, 0) = true
                isPermitted(g, 1) = true
                setRule(g, 2, -1) = 1
                isPermitted(g, 0) = true
                isPermitted(g, 1) = false
                setRule(g, 3, -1) = 2
                isPermitted(g, 0) = false
                logIn(3, 0) = -1
                isPermitted(g, 0) = true
                """);
        Story.tell("7: all 8 persons", EIGHT_PERSONS, "setRule(s, 8, -1) = 0",
                Story.lines(0, 6, person -> "logIn(" + person + ", 0)"), "isPermitted(s, 0) = false", "logIn(7, 0) = -1",
                "isPermitted(s, 0) = true", "isPermitted(s, 1) = false", "setRule(s, 7, -1) = 8", "isPermitted(s, 0) = true");
        Story.tell("7: the role is just that of one of them, or more", MANNED, """
                setRule(u, 0, 1) = 0
                isPermitted(u, 0) = true
                isPermitted(u, 1) = true
                logIn(0, -1) = 0
                logIn(2, 0) = 1
                isPermitted(u, 0) = true
                isPermitted(u, 1) = false
                """);
        Story.tell("7: neither a higher role nor a lower one is the role", MANNED, """
                logIn(1, -1) = 0
                logIn(3, 0) = -1
                setRule(w, 0, 1) = 0
                isPermitted(w, 0) = false
                setRule(w, 0, 2) = 0
                isPermitted(w, 0) = true
                setRule(w, 0, 0) = 0
                isPermitted(w, 0) = true
                logIn(0, -1) = 0
                isPermitted(w, 0) = false
                """);
        Story.tell("7: a role takes somebody, also with 0 persons", MANNED, "logIn(2, -1) = 1",
                "setRule(d, 0, -1) = 0", "isPermitted(d, 1) = true", "setRule(d, 0, 1) = 0", "isPermitted(d, 1) = false");
        Story.tell("7: a rule that is told anew, without a role", MANNED, """
                setRule(s, 1, 2) = 0
                isPermitted(s, 0) = false
                setRule(s, 2, -1) = 1
                isPermitted(s, 0) = true
                isPermitted(s, 1) = false
                setRule(s, 0, 2) = 2
                isPermitted(s, 0) = false
                setRule(s, 0, -1) = 0
                isPermitted(s, 0) = true
                isPermitted(s, 1) = true
                """);
        Story.tell("7: it takes both, so many persons and the role", MANNED, """
                setRule(c, 2, 2) = 0
                isPermitted(c, 0) = false
                setRule(c, 3, 1) = 2
                isPermitted(c, 0) = false
                setRule(c, 2, 1) = 3
                isPermitted(c, 0) = true
                """);
        Story.tell("7: a rule is of its kind alone", MANNED, "setRule(g, 8, 2) = 0", "isPermitted(g, 0) = false",
                Story.lines(1, 5, kind -> String.format("isPermitted(%c, 0) = true", "gwudsc".charAt(kind))));
        Story.tell("7: there is no such device", MANNED, Story.each(Story.INDEX, "isPermitted(g, 2)", "isPermitted(g, -1)",
                "isPermitted(g, 2147483647)", "isPermitted(g, -2147483648)"));
        Story.tell("7: there is no such kind", MANNED, Story.each(Story.ARGUMENT, "isPermitted(q, 0)",
                "isPermitted(#0, 1)", "isPermitted(C, 0)", "isPermitted(#65535, 0)"));
        Story.tell("7: no such device comes before no such kind", MANNED,
                Story.each(Story.INDEX, "isPermitted(q, 2)", "isPermitted(q, -1)"));
    }

    /** Device 0 has key 0 and its wrap and message, and device 1 follows it; person 0 is at 0, 1 at 1. */
    private static final String ALL_KINDS = """
            addDevice() = 0
            addDevice() = 1
            trust(0, 1, true) = false
            addPerson(0) = 0
            addPerson(2) = 1
            logIn(0, 0) = -1
            logIn(1, 1) = -1
            generate(0, 1, 15, 9, 9) = 0
            generate(0, 1, 15, 9, 9) = 1
            wrap(0, 0, 1) = 0
            encipher(0, 0, 7) = 0
            share(0, 0, 2, 3) = 2
            """;

    private static final String[][] ACTS = {
        {"g", "generate(0, 1, 0, 1, 0)"}, {"g", "derive(0, 0, 0, 0)"}, {"g", "rotate(0, 0)"}, {"w", "wrap(0, 1, 0)"},
        {"u", "unwrap(0, 0)"}, {"d", "destroy(0, 0)"}, {"d", "zeroise(0)"}, {"s", "share(0, 0, 2, 3)"},
        {"c", "follow(0, 1)"},
    };

    private static String otherRules(String kind) {
        return Story.lines(0, 5, other -> "gwudsc".charAt(other) == kind.charAt(0) ? "" : setRule(other, 8, 1, 0));
    }

    private static void rulesOfActs() {
        for (String[] act : ACTS) {
            Story.tell("Terms: " + act[1] + " is refused by the rule of " + act[0], ALL_KINDS, "setRule(" + act[0] + ", 2, -1)",
                    act[1] + " throws IllegalStateException", "setRule(" + act[0] + ", 0, 2)",
                    act[1] + " throws IllegalStateException", "setRule(" + act[0] + ", 1, 0)", act[1]);
            Story.tell("Terms: " + act[1] + " is done by the rule of " + act[0] + " alone", ALL_KINDS, otherRules(act[0]), act[1]);
        }
        Story.tell("Terms: to recover is refused by the rule of u", ALL_KINDS, "logIn(1, 0) = 1", "setRule(u, 3, -1) = 0",
                "recover(0, 0) throws IllegalStateException", "setRule(u, 2, 1) = 3",
                "recover(0, 0) throws IllegalStateException", "setRule(u, 2, 2) = 2", "recover(0, 0) = true");
        Story.tell("Terms: to recover is done by the rule of u alone", ALL_KINDS, "logIn(1, 0) = 1", otherRules("u"),
                "recover(0, 0) = true");
        Story.tell("Terms: it takes the persons at the device that follows", ALL_KINDS, "setRule(c, 1, 2) = 0",
                "follow(0, 1) throws IllegalStateException", "follow(1, 0) = 2");
        Story.tell("Terms: what is no act has no rule", ALL_KINDS, otherRules("x"), """
                trust(0, 1, false) = true
                addDevice() = 2
                addPerson(0) = 2
                logIn(0, 1) = 0
                tighten(0, 14) = 14
                falsify(0, 0, 0)
                encipher(0, 0, 9) = 1
                read(0, 1) = 9
                renew(0, 0) = 0
                canReach(0, 0) = true
                advance(1) = 1
                """);
    }

    public static void main(String[] args) {
        promise1();
        promise2();
        promise3();
        promise4();
        promise5();
        promise6();
        promise7();
        rulesOfActs();
        Story.end("DevicesAndPersonsTest");
    }
}
