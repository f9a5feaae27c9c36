/**
 * A call that throws changes nothing: each exception of each method, in a house where there is much to change.
 * The story looks at the house behind each call that throws.
 */
public final class RefusedCallsTest {
    /**
     * Three devices, of which 0 and 1, and 1 and 2 trust each other; persons 0 and 1 at device 0, 2 at 1, 3 nowhere.
     * On day 3 keys 0 and 6 (behind 2) are active, 1 and 2 can only read, 4 has expired, 3 is derived from 0, 5 may do
     * nothing but decipher. Device 0 destroyed 3, device 1 destroyed 5; device 2 has key 7 alone.
     */
    private static final String RICH = """
            addDevice() = 0
            addDevice() = 1
            addDevice() = 2
            trust(0, 1, true) = false
            trust(1, 2, true) = false
            addPerson(0) = 0
            addPerson(1) = 1
            addPerson(2) = 2
            addPerson(2) = 3
            logIn(0, 0) = -1
            logIn(1, 0) = -1
            logIn(2, 1) = -1
            generate(0, 2, 15, 30, 20) = 0
            generate(0, 2, 15, 2, 3) = 1
            generate(0, 3, 15, 30, 20) = 2
            derive(0, 0, 7, 15) = 3
            generate(0, 1, 15, 1, 1) = 4
            generate(0, 1, 15, 30, 20) = 5
            encipher(0, 0, 100) = 0
            encipher(0, 1, 101) = 1
            encipher(0, 2, 102) = 2
            encipher(0, 4, 103) = 3
            wrap(0, 0, 5) = 0
            wrap(0, 4, 5) = 1
            wrap(0, 1, 3) = 2
            share(0, 0, 2, 7) = 3
            share(0, 2, 3, 14) = 3
            falsify(2, 0, 9)
            follow(1, 0) = 6
            destroy(1, 5) = 1
            destroy(0, 3) = 1
            rotate(0, 2) = 6
            tighten(5, 8) = 8
            generate(2, 1, 3, 30, 0) = 7
            advance(3) = 3
            """;

    private static final String QUORUMS = Story.lines(0, 5,
            kind -> "setRule(" + "gwudsc".charAt(kind) + ", 3, " + (kind % 4 - 1) + ") = 0");

    private static final String FULL = RICH + "addDevice() = 3\n" + Story.lines(4, 7, person -> "addPerson(1) = " + person)
            + Story.lines(8, 23, key -> "generate(2, 1, 15, 20, 1) = " + key)
            + Story.lines(3, 59, wrap -> "wrap(2, 8, 9) = " + wrap)
            + Story.lines(4, 59, message -> "encipher(2, 8, 200) = " + message);

    private static final String NO_SUCH = Story.each(Story.INDEX, "trust(3, 0, false)", "trust(0, 3, true)", "logIn(4, 0)",
            "logIn(0, 3)", "isPermitted(g, 3)", "generate(3, 1, 15, 1, 0)", "derive(3, 0, 7, 0)", "derive(0, 8, 7, 0)",
            "rotate(3, 0)", "rotate(0, 8)", "tighten(8, 0)", "flags(8)", "stage(8)", "has(3, 0)", "has(0, 8)",
            "destroy(3, 0)", "destroy(0, 8)", "zeroise(3)", "follow(3, 0)", "follow(0, 3)", "wrap(3, 0, 1)",
            "wrap(0, 8, 1)", "wrap(0, 0, 8)", "unwrap(3, 0)", "unwrap(0, 3)", "canReach(8, 0)", "canReach(0, 3)",
            "share(3, 0, 2, 7)", "share(0, 8, 2, 7)", "card(4, 0)", "card(0, 8)", "falsify(4, 0, 1)", "falsify(0, 8, 1)",
            "recover(3, 0)", "recover(0, 8)", "encipher(3, 0, 1)", "encipher(0, 8, 1)", "cipher(4)", "read(3, 0)",
            "read(0, 4)", "renew(3, 2)", "renew(0, 4)");

    private static final String OUT_OF_RANGE = Story.each(Story.ARGUMENT, "trust(0, 0, true)", "trust(1, 1, false)",
            "addPerson(3)", "addPerson(-1)", "setRule(x, 1, 1)", "setRule(g, 9, 1)", "setRule(g, 1, 3)", "setRule(u, 2, -2)",
            "isPermitted(x, 0)", "generate(0, 0, 0, 1, 0)", "generate(0, 1, 16, 1, 0)", "generate(0, 1, 0, 501, 0)",
            "generate(0, 1, 0, 1, 501)", "derive(0, 0, 100, 0)", "derive(0, 0, 7, 16)", "tighten(0, 16)", "tighten(0, -1)",
            "wrap(0, 0, 0)", "share(0, 0, 1, 7)", "share(0, 0, 5, 15)", "share(0, 0, 2, 16)", "share(0, 0, 2, 17)",
            "share(0, 0, 3, 3)", "falsify(1, 0, 251)", "falsify(0, 0, -1)", "encipher(0, 0, 251)", "encipher(0, 0, -1)",
            "advance(0)", "advance(501)");

    private static final String CANNOT = Story.each(Story.UNSUPPORTED, "derive(2, 0, 7, 0)", "derive(0, 1, 0, 15)",
            "derive(0, 0, 7, 15)", "rotate(2, 0)", "rotate(0, 1)", "rotate(0, 2)", "rotate(0, 4)", "destroy(2, 0)",
            "destroy(0, 3)", "follow(0, 2)", "follow(2, 0)", "follow(1, 1)", "wrap(2, 0, 7)", "wrap(2, 7, 0)",
            "wrap(0, 1, 0)", "wrap(0, 0, 2)", "wrap(0, 0, 5)", "unwrap(1, 0)", "unwrap(0, 1)", "unwrap(0, 2)",
            "unwrap(2, 0)", "share(2, 0, 2, 7)", "share(0, 3, 2, 7)", "recover(1, 0)", "recover(0, 2)", "recover(0, 1)",
            "encipher(2, 0, 1)", "encipher(0, 1, 1)", "encipher(0, 5, 1)", "read(2, 0)", "read(0, 3)", "renew(1, 2)",
            "renew(2, 2)");

    private static final String NOT_PERMITTED_AT_0 = Story.each(Story.STATE, "generate(0, 1, 15, 1, 0)",
            "derive(0, 0, 0, 15)", "rotate(0, 0)", "destroy(0, 0)", "zeroise(0)", "follow(0, 1)", "wrap(0, 6, 0)",
            "unwrap(0, 0)", "share(0, 0, 2, 14)", "recover(0, 0)");

    private static final String NOT_PERMITTED = NOT_PERMITTED_AT_0 + Story.each(Story.STATE, "derive(1, 0, 7, 15)",
            "zeroise(1)", "follow(1, 0)", "share(1, 2, 4, 15)");

    public static void main(String[] args) {
        Story.tell("there is no such device, key, person, wrap or message", RICH, NO_SUCH);
        Story.tell("out of range", RICH, OUT_OF_RANGE);
        Story.tell("it cannot be", RICH, CANNOT);
        Story.tell("a person has no card", RICH, Story.each(Story.NONE_SUCH, "card(3, 0)", "card(0, 1)", "card(0, 2)",
                "falsify(3, 0, 1)", "falsify(0, 1, 250)", "falsify(0, 2, 0)"));
        Story.tell("there is no such act", RICH, "acts() = 16",
                Story.each(Story.NONE_SUCH, "actAt(16)", "actAt(-1)", "personsAt(16)", "personsAt(-1)"));
        Story.tell("the rule does not permit it", RICH, QUORUMS, NOT_PERMITTED, "isPermitted(g, 0) = false",
                "isPermitted(c, 1) = false");
        Story.tell("the role of the rule does not permit it", RICH,
                Story.lines(0, 5, kind -> "setRule(" + "gwudsc".charAt(kind) + ", 1, 2) = 0"), NOT_PERMITTED_AT_0);
        Story.tell("it cannot be, nor does the rule permit it", RICH, QUORUMS, CANNOT);
        Story.tell("out of range, nor does the rule permit it", RICH, QUORUMS, OUT_OF_RANGE);
        Story.tell("no such one, nor does the rule permit it", RICH, QUORUMS, NO_SUCH);
        Story.tell("it is full", FULL, Story.each(Story.STATE, "addDevice()", "addPerson(0)", "generate(0, 1, 15, 1, 0)",
                "derive(0, 0, 1, 15)", "derive(1, 0, 1, 15)", "rotate(0, 0)", "wrap(0, 6, 0)", "wrap(2, 8, 9)",
                "encipher(0, 0, 1)", "encipher(2, 8, 200)"));
        Story.tell("it is full, and cannot be", FULL, CANNOT);
        Story.tell("the day would be greater than 9999", RICH, Story.lines(1, 19, times -> "advance(500)"),
                "advance(490) = 9993", Story.each(Story.STATE, "advance(7)", "advance(500)"), "advance(6) = 9999");
        Story.end("RefusedCallsTest");
    }
}
