import java.lang.reflect.Field;
import java.util.List;

/** Promises 29 to 36, and what the terms say of the log. */
public final class TimeAndLogTest {
    /** Two devices that trust each other, with persons 0 and 2 at device 0, 1 at device 1. */
    private static final String MANNED = """
            addDevice() = 0
            addDevice() = 1
            trust(0, 1, true) = false
            addPerson(0) = 0
            addPerson(1) = 1
            addPerson(2) = 2
            logIn(0, 0) = -1
            logIn(1, 1) = -1
            logIn(2, 0) = -1
            """;

    private static final String DAY_9500 = Story.lines(1, 19, times -> "advance(500) = " + times * 500);

    private static void promise29() {
        Story.tell("29: the day", "advance(1) = 1", "advance(500) = 501", "advance(2) = 503", "acts() = 0");
        Story.tell("29: the days are 1 to 500", "advance(1) = 1", "advance(500) = 501", Story.each(Story.ARGUMENT, "advance(0)",
                "advance(-1)", "advance(501)", "advance(2147483647)", "advance(-2147483648)"), "advance(1) = 502");
        Story.tell("29: the day 9999 is the last", DAY_9500, "advance(500) throws IllegalStateException", "advance(499) = 9999",
                Story.each(Story.STATE, "advance(1)", "advance(500)"));
        Story.tell("29: on the day 9998", DAY_9500, "advance(498) = 9998", "advance(2) throws IllegalStateException",
                "advance(1) = 9999", "advance(1) throws IllegalStateException");
        Story.tell("29: out of range comes before the last day", DAY_9500, "advance(499) = 9999",
                Story.each(Story.ARGUMENT, "advance(0)", "advance(501)", "advance(-1)", "advance(2147483647)"));
    }

    /** Told: a call, and what its act tells: the kind, the device, the number, the sum of the persons, the day. */
    private record Told(String call, char kind, int device, int number, int persons, int day) {
    }

    private static final List<Told> ACTS = List.of(
            new Told("generate(0, 2, 15, 9, 9) = 0", 'g', 0, 0, 5, 0),
            new Told("advance(3) = 3\nderive(0, 0, 4, 15) = 1", 'g', 0, 1, 5, 3),
            new Told("derive(0, 0, 4, 15) = 1", 'g', 0, 1, 5, 3),
            new Told("wrap(0, 0, 1) = 0", 'w', 0, 0, 5, 3),
            new Told("wrap(0, 0, 1) = 1", 'w', 0, 1, 5, 3),
            new Told("wrap(0, 1, 0) = 2", 'w', 0, 2, 5, 3),
            new Told("logIn(2, -1) = 0\nunwrap(0, 2) = 0", 'u', 0, 2, 1, 3),
            new Told("unwrap(0, 0) = 1", 'u', 0, 0, 1, 3),
            new Told("follow(1, 0) = 2", 'c', 1, 0, 2, 3),
            new Told("rotate(1, 1) = 2", 'g', 1, 2, 2, 3),
            new Told("rotate(0, 0) = 3", 'g', 0, 3, 1, 3),
            new Told("share(1, 2, 2, 6) = 2", 's', 1, 2, 2, 3),
            new Told("destroy(1, 2) = 0", 'd', 1, 2, 2, 3),
            new Told("logIn(2, 1) = -1\nadvance(500) = 503\nrecover(1, 2) = true", 'u', 1, 2, 6, 503),
            new Told("falsify(1, 2, 0)\nrecover(1, 2) = false", 'u', 1, 2, 6, 503),
            new Told("zeroise(0) = 3", 'd', 0, -1, 1, 503),
            new Told("logIn(0, 1) = 0\nfollow(0, 1) = 3", 'c', 0, 1, 0, 503),
            new Told("share(0, 1, 2, 7) = 3", 's', 0, 1, 0, 503),
            new Told("zeroise(1) = 3", 'd', 1, -1, 7, 503));

    /** The head behind each act is looked at; and at the end all kinds and persons. */
    private static void promises30To33() {
        StringBuilder run = new StringBuilder(MANNED + "acts() = 0\nhead() = 7\n");
        StringBuilder ends = new StringBuilder();
        long head = 7;
        for (int index = 0; index < ACTS.size(); index++) {
            Told act = ACTS.get(index);
            head = Formulas.head(head, act.kind, act.device, act.number, act.persons, act.day);
            run.append(act.call).append("\nacts() = ").append(index + 1).append("\nhead() = ").append(head).append('\n');
            ends.append("actAt(" + index + ") = " + act.kind + "\npersonsAt(" + index + ") = " + act.persons + "\n");
        }
        Story.tell("30 to 33: an act of each kind", run.toString(), ends.toString());
        Story.tell("31, 32: the log does not change when persons go, or days", run.toString(), "logIn(0, -1)\nlogIn(1, 0)",
                "advance(500) = 1003", ends.toString(), "head() = " + head);
        Story.tell("33: the head behind the first act", "addDevice() = 0", "generate(0, 1, 0, 1, 0) = 0", "head() = 295526720");
    }

    private static void refusedIsNotTold() {
        Story.tell("Terms: an act that is refused is not told", MANNED, """
                generate(0, 1, 0, 9, 0) = 0
                head() = 295526875
                generate(0, 4, 0, 9, 0) throws IllegalArgumentException
                wrap(0, 0, 0) throws IllegalArgumentException
                destroy(1, 0) throws UnsupportedOperationException
                recover(0, 0) throws UnsupportedOperationException
                setRule(g, 8, 2) = 0
                generate(0, 1, 0, 9, 0) throws IllegalStateException
                rotate(0, 0) throws IllegalStateException
                acts() = 1
                head() = 295526875
                """);
        Story.tell("Terms: what is no act is not told", MANNED, """
                generate(0, 1, 15, 9, 9) = 0
                share(0, 0, 2, 3) = 2
                acts() = 2
                addDevice() = 2
                addPerson(0) = 3
                trust(0, 2, true) = false
                logIn(3, 0) = -1
                setRule(w, 1, -1) = 0
                tighten(0, 14) = 14
                falsify(0, 0, 1)
                encipher(0, 0, 5) = 0
                read(0, 0) = 5
                renew(0, 0) = 0
                canReach(0, 1) = false
                advance(1) = 1
                isSound() = true
                acts() = 2
                actAt(1) = s
                actAt(2) throws NoSuchElementException
                """);
        Story.tell("31, 32: there is no such act", MANNED, "generate(1, 1, 15, 2, 0) = 0", "actAt(0) = g", "personsAt(0) = 2",
                Story.each(Story.NONE_SUCH, "actAt(1)", "actAt(-1)", "actAt(2147483647)", "actAt(-2147483648)",
                        "personsAt(1)", "personsAt(-1)", "personsAt(2147483647)", "personsAt(-2147483648)"));
        Story.tell("31, 32: there is no act", Story.each(Story.NONE_SUCH, "actAt(0)", "personsAt(0)", "actAt(-1)",
                "personsAt(-1)", "actAt(1)", "personsAt(1)"));
        Story.tell("32: all 8 persons, and none", "addDevice()\naddDevice()", Story.lines(0, 7, person -> "addPerson(0) = " + person),
                "zeroise(1) = 0", "personsAt(0) = 0", Story.lines(0, 7, person -> "logIn(" + person + ", 1) = -1\nzeroise(1) = 0\n"
                        + "personsAt(" + (person + 1) + ") = " + ((2 << person) - 1)), "zeroise(0) = 0", "personsAt(9) = 0");
    }

    /** As many acts as an object has calls for: the longs of the head go round over and over. */
    private static void longLog() {
        long head = 7;
        for (int act = 0; act < 508; act++) {
            head = Formulas.head(head, 'd', 0, -1, 0, 9999);
        }
        String calls = "addDevice() = 0\n" + Story.lines(1, 508, act -> "zeroise(0) = 0");
        Story.tell("30: as many acts as there are calls", calls, "acts() = 508", "actAt(507) = d");
        Story.tell("31: the first one, too", calls, "actAt(0) = d", "actAt(508) throws NoSuchElementException");
        Story.tell("32: the last one's persons", calls, "personsAt(507) = 0", "personsAt(508) throws NoSuchElementException");
        long last = 7;
        for (int act = 0; act < 489; act++) {
            last = Formulas.head(last, 'd', 0, -1, 0, 9999);
        }
        Story.tell("33: longs go round", "addDevice() = 0", DAY_9500, "advance(499) = 9999",
                Story.lines(1, 489, act -> "zeroise(0) = 0"), "head() = " + last, "isSound() = true");
        long low = 7;
        StringBuilder heads = new StringBuilder(MANNED);
        for (int act = 0; act < 100; act++) {
            low = Formulas.head(low, 'd', 1, -1, 2, 0);
            heads.append("zeroise(1) = 0\nhead() = ").append(low).append('\n');
        }
        Story.tell("33: the head behind each of 100 acts, below 0 and above", heads.toString(), "isSound() = true");
    }

    private static void promise34() {
        Story.tell("34: there are no keys", MANNED, Story.each(Story.ARITHMETIC, "activeShare()"),
                "generate(0, 1, 0, 1, 0) = 0", "activeShare() = 1.0");
        Story.tell("34: the share of the keys that are active", MANNED, """
                generate(0, 1, 15, 1, 9) = 0
                generate(0, 1, 15, 2, 0) = 1
                generate(0, 1, 15, 3, 0) = 2
                activeShare() = 1.0
                advance(1) = 1
                activeShare() = 0.6666667
                advance(1) = 2
                activeShare() = 0.33333334
                advance(1) = 3
                activeShare() = 0.0
                advance(500) = 503
                activeShare() = 0.0
                """);
        Story.tell("34: copies do not count, and rotated keys are not active", MANNED, "generate(0, 1, 15, 9, 9) = 0",
                "follow(1, 0) = 1", "rotate(0, 0) = 1", "activeShare() = 0.5", "rotate(0, 1) = 2", "activeShare() = 0.33333334",
                "zeroise(0) = 3", "zeroise(1) = 1", "activeShare() = 0.33333334");
        for (int active = 0; active <= 24; active++) {
            int many = active;
            Story.tell("34: " + active + " of 24 keys", "addDevice() = 0",
                    Story.lines(1, 24, key -> "generate(0, 1, 0, " + (key <= many ? 2 : 1) + ", 1)"), "advance(1) = 1",
                    "activeShare() = " + (float) active / 24f);
        }
    }

    private static void promise35() {
        Story.tell("35: there are no keys", MANNED, Story.each(Story.ARITHMETIC, "meanCopies()"),
                "generate(0, 1, 0, 1, 0) = 0", "meanCopies() = 1.0");
        Story.tell("35: the mean number of copies", MANNED, """
                generate(0, 1, 15, 1, 9) = 0
                generate(0, 1, 15, 2, 0) = 1
                generate(0, 1, 15, 3, 0) = 2
                meanCopies() = 1.0
                follow(1, 0) = 3
                meanCopies() = 2.0
                destroy(0, 1) = 1
                meanCopies() = 1.6666666666666667
                zeroise(1) = 3
                meanCopies() = 0.6666666666666666
                advance(500) = 500
                meanCopies() = 0.6666666666666666
                zeroise(0) = 2
                meanCopies() = 0.0
                """);
        Story.tell("35: all copies of 24 keys at 4 devices", "addDevice()\naddDevice()\naddDevice()\naddDevice()",
                "trust(0, 1, true)\ntrust(0, 2, true)\ntrust(0, 3, true)", Story.lines(0, 23, key -> "generate(0, 1, 0, 1, 1) = " + key),
                "follow(1, 0) = 24\nfollow(2, 0) = 24\nfollow(3, 0) = 24", "meanCopies() = 4.0", "destroy(3, 23) = 3",
                "meanCopies() = " + 95.0 / 24.0);
    }

    private static final String BUSY = MANNED + """
            generate(0, 2, 15, 9, 9) = 0
            derive(0, 0, 4, 7) = 1
            wrap(0, 0, 1) = 0
            encipher(0, 0, 200) = 0
            encipher(0, 1, 201) = 1
            follow(1, 0) = 2
            tighten(0, 12) = 12
            rotate(0, 0) = 2
            renew(0, 0) = 2
            share(0, 0, 2, 7) = 3
            falsify(0, 0, 3)
            recover(0, 0) = false
            unwrap(1, 0) = 1
            destroy(1, 1) = 1
            """;

    private static void promise36() throws ReflectiveOperationException {
        Story.tell("36: a new house is sound", "isSound() = true");
        Story.tell("36: a house is sound by whatever calls", BUSY, "isSound() = true", "advance(500) = 500", "isSound() = true",
                "zeroise(0) = 3", "isSound() = true", "tighten(0, 0) = 0", "isSound() = true");
        Story.tell("36: an expired key that was tightened, and its copies", MANNED, "generate(0, 1, 15, 1, 0) = 0",
                "follow(1, 0) = 1", "tighten(0, 0) = 0", "advance(9) = 9", "isSound() = true");
        Story.due("36: a house that nobody meddled with", isSoundWith("keys", "flags", 0, 0), true);
        unsound("a flag too many", "keys", "flags", 0, 16);
        unsound("a flag that it was not made with", "keys", "flags", 1, 8);
        unsound("a flag that its parent did not have", "keys", "flagsOfParent", 1, 4);
        unsound("a garbled message", "messages", "cipher", 1, 1);
        unsound("a message of another value", "messages", "value", 0, 1);
        unsound("another secret", "keys", "secret", 1, 1);
        unsound("a forged act", "log", "persons", 2, 1);
        unsound("another day", "log", "days", 0, 1);
    }

    /** No call of the face makes a house unsound, so the test reaches inside, as this class has it. */
    private static void unsound(String what, String part, String row, int index, int change) throws ReflectiveOperationException {
        Story.due("36: " + what, isSoundWith(part, row, index, change), false);
    }

    private static boolean isSoundWith(String part, String row, int index, int change) throws ReflectiveOperationException {
        Keyceremony house = new Keyceremony();
        for (String line : BUSY.split("\n")) {
            new Call(line.substring(0, line.indexOf(')') + 1)).on(house);
        }
        int[] held = rowInside(house, part, row);
        if (held == null) {
            return change == 0;
        }
        held[index] ^= change;
        return house.isSound();
    }

    /** How the state is held is free: null, if the class has no such row to meddle with. */
    private static int[] rowInside(Keyceremony house, String part, String row) throws ReflectiveOperationException {
        try {
            return field(field(house, part), row) instanceof int[] held ? held : null;
        } catch (NoSuchFieldException e) {
            return null;
        }
    }

    private static Object field(Object object, String name) throws ReflectiveOperationException {
        Field field = object.getClass().getDeclaredField(name);
        field.setAccessible(true);
        return field.get(object);
    }

    public static void main(String[] args) throws ReflectiveOperationException {
        promise29();
        promises30To33();
        refusedIsNotTold();
        longLog();
        promise34();
        promise35();
        promise36();
        Story.end("TimeAndLogTest");
    }
}
