/** Promises 15 to 17, and what the terms say of devices that destroy copies and follow each other. */
public final class CopiesTest {
    /** Three devices; 0 and 1 trust each other, 1 and 2, too; at device 0 the keys 0 and 1, of all flags. */
    private static final String KEYED = """
            addDevice() = 0
            addDevice() = 1
            addDevice() = 2
            trust(0, 1, true) = false
            trust(1, 2, true) = false
            generate(0, 2, 15, 50, 50) = 0
            generate(0, 2, 15, 50, 50) = 1
            """;

    /** Devices 0 and 1 have both keys; device 2 has none, and there is a wrap of key 1 by key 0. */
    private static final String COPIED = KEYED + """
            follow(1, 0) = 2
            wrap(0, 0, 1) = 0
            """;

    private static void promise15() {
        Story.tell("15: how many devices have copies then", COPIED, """
                follow(2, 1) = 2
                destroy(0, 0) = 2
                destroy(1, 0) = 1
                destroy(2, 0) = 0
                destroy(2, 1) = 2
                """);
        Story.tell("Terms: to destroy a copy takes it from the device alone", COPIED, """
                destroy(0, 0) = 1
                has(0, 0) = false
                has(1, 0) = true
                has(0, 1) = true
                """);
        Story.tell("Terms: a device does not get the copy again by following", COPIED, """
                destroy(0, 0) = 1
                destroy(0, 1) = 1
                follow(0, 1) = 0
                has(0, 0) = false
                has(0, 1) = false
                """);
        Story.tell("Terms: a device does not get the copy again by unwrapping", COPIED, """
                destroy(0, 1) = 1
                unwrap(0, 0) throws UnsupportedOperationException
                has(0, 1) = false
                unwrap(1, 0) = 1
                """);
        Story.tell("Terms: a device does not get the copy again by deriving", KEYED, """
                derive(0, 0, 5, 15) = 2
                destroy(0, 2) = 0
                derive(0, 0, 5, 15) throws UnsupportedOperationException
                has(0, 2) = false
                """);
        Story.tell("Terms: a device gets the copy again by recovering, and forgets that it destroyed it", COPIED, """
                addPerson(0) = 0
                addPerson(0) = 1
                share(0, 1, 2, 3) = 2
                logIn(0, 0) = -1
                logIn(1, 0) = -1
                destroy(0, 1) = 1
                recover(0, 1) = true
                has(0, 1) = true
                unwrap(0, 0) = 1
                follow(1, 0) = 0
                has(1, 1) = true
                """);
        Story.tell("15: an expired copy can be destroyed", COPIED, "advance(500) = 500", "destroy(0, 0) = 1");
        Story.tell("15: there is no such device, or key", KEYED, Story.each(Story.INDEX, "destroy(3, 0)", "destroy(-1, 0)",
                "destroy(0, 2)", "destroy(0, -1)", "destroy(2147483647, 0)", "destroy(0, 2147483647)",
                "destroy(-2147483648, 0)", "destroy(0, -2147483648)"));
        Story.tell("15: the device has none", KEYED, Story.each(Story.UNSUPPORTED, "destroy(1, 0)", "destroy(2, 1)"),
                "destroy(0, 0) = 0", Story.each(Story.UNSUPPORTED, "destroy(0, 0)"));
        Story.tell("15: the rule does not permit it", KEYED, "setRule(d, 1, -1) = 0",
                Story.each(Story.STATE, "destroy(0, 0)", "destroy(0, 1)"));
        Story.tell("15: the exceptions in their order", KEYED, "setRule(d, 1, -1) = 0",
                Story.each(Story.INDEX, "destroy(3, 0)", "destroy(0, 2)", "destroy(1, 2)"),
                Story.each(Story.UNSUPPORTED, "destroy(1, 0)", "destroy(2, 0)"));
    }

    private static void promise16() {
        Story.tell("16: how many copies it had", COPIED, """
                destroy(1, 0) = 1
                zeroise(1) = 1
                zeroise(0) = 2
                zeroise(0) = 0
                zeroise(2) = 0
                """);
        Story.tell("Terms: to zeroise takes all copies from the device alone", COPIED, """
                zeroise(1) = 2
                has(1, 0) = false
                has(1, 1) = false
                has(0, 0) = true
                has(0, 1) = true
                """);
        Story.tell("Terms: a zeroised device forgets what it destroyed", COPIED, """
                destroy(0, 0) = 1
                destroy(0, 1) = 1
                zeroise(0) = 0
                follow(0, 1) = 2
                has(0, 0) = true
                destroy(0, 1) = 1
                zeroise(0) = 1
                follow(0, 1) = 2
                unwrap(0, 0) = 1
                """);
        Story.tell("Terms: what a zeroised device lost is not destroyed", COPIED, """
                zeroise(0) = 2
                follow(1, 0) = 0
                has(1, 0) = true
                follow(0, 1) = 2
                """);
        Story.tell("Terms: another device does not forget what it destroyed", COPIED, """
                destroy(1, 0) = 1
                zeroise(0) = 2
                zeroise(2) = 0
                follow(0, 1) = 1
                has(0, 0) = false
                has(0, 1) = true
                """);
        Story.tell("Terms: a zeroised device trusts as before", COPIED, "zeroise(0) = 2", "trust(0, 1, true) = true");
        Story.tell("16: all of 24 keys", "addDevice() = 0", Story.lines(0, 23, key -> "generate(0, 1, 0, 1, 0) = " + key),
                "zeroise(0) = 24", "zeroise(0) = 0");
        Story.tell("16: there is no such device", KEYED, Story.each(Story.INDEX, "zeroise(3)", "zeroise(-1)",
                "zeroise(2147483647)", "zeroise(-2147483648)"));
        Story.tell("16: the rule does not permit it", KEYED, "setRule(d, 1, -1) = 0",
                Story.each(Story.STATE, "zeroise(0)", "zeroise(2)"));
        Story.tell("16: a zeroising that the rule does not permit forgets nothing", COPIED, "destroy(1, 0) = 1",
                "setRule(d, 1, -1) = 0", Story.each(Story.STATE, "zeroise(1)"), "follow(1, 0) = 0", "has(1, 0) = false",
                "has(1, 1) = true");
        Story.tell("16: no such device comes first", KEYED, "setRule(d, 1, -1) = 0",
                Story.each(Story.INDEX, "zeroise(3)", "zeroise(-1)"));
    }

    private static void promise17() {
        Story.tell("17: how many copies it got", KEYED, """
                follow(1, 0) = 2
                follow(1, 0) = 0
                follow(2, 1) = 2
                has(2, 0) = true
                has(2, 1) = true
                has(0, 0) = true
                """);
        Story.tell("17: less how many were destroyed", COPIED, """
                destroy(0, 0) = 1
                destroy(0, 1) = 1
                follow(1, 0) = -2
                has(1, 0) = false
                has(1, 1) = false
                """);
        Story.tell("17: copies that it got, and copies that were destroyed, in one", COPIED, """
                generate(0, 1, 0, 1, 0) = 2
                generate(0, 1, 0, 1, 0) = 3
                destroy(0, 1) = 1
                follow(1, 0) = 1
                has(1, 1) = false
                has(1, 2) = true
                has(1, 3) = true
                """);
        Story.tell("17: only the device that follows gets copies", KEYED, """
                generate(1, 1, 0, 1, 0) = 2
                follow(1, 0) = 2
                has(0, 2) = false
                has(1, 2) = true
                follow(0, 1) = 1
                """);
        Story.tell("17: all copies of 24 keys, and their end", "addDevice()\naddDevice()", "trust(0, 1, true) = false",
                Story.lines(0, 23, key -> "generate(0, 1, 0, 1, 0) = " + key), "follow(1, 0) = 24",
                Story.lines(0, 23, key -> "destroy(0, " + key + ") = 1"), "follow(1, 0) = -24", "zeroise(1) = 0");
        Story.tell("17: an expired copy is got, too", KEYED, "advance(100) = 100", "follow(1, 0) = 2");
        Story.tell("Terms: what it destroyed itself it does not get", COPIED, """
                destroy(1, 0) = 1
                follow(1, 0) = 0
                has(1, 0) = false
                has(0, 0) = true
                """);
        Story.tell("Terms: it remembers what the other one destroyed", COPIED, """
                destroy(0, 1) = 1
                follow(1, 0) = -1
                zeroise(0) = 1
                unwrap(1, 0) throws UnsupportedOperationException
                follow(0, 1) = 1
                has(0, 1) = false
                """);
        Story.tell("Terms: also of keys of which it has no copy", COPIED, """
                trust(0, 2, true) = false
                destroy(0, 1) = 1
                follow(2, 0) = 1
                follow(2, 1) = 0
                has(2, 0) = true
                has(2, 1) = false
                unwrap(2, 0) throws UnsupportedOperationException
                follow(1, 2) = -1
                has(1, 1) = false
                """);
        Story.tell("Terms: the device that missed a deletion", COPIED, """
                follow(2, 1) = 2
                destroy(0, 0) = 2
                follow(1, 0) = -1
                has(2, 0) = true
                follow(1, 2) = 0
                has(1, 0) = false
                follow(2, 1) = -1
                has(2, 0) = false
                """);
        Story.tell("Terms: the device that missed a deletion does not bring the key back", COPIED, """
                follow(2, 1) = 2
                trust(0, 2, true) = false
                destroy(0, 0) = 2
                follow(0, 2) = 0
                has(0, 0) = false
                follow(0, 1) = 0
                has(0, 0) = false
                """);
        Story.tell("Terms: a deletion is followed over devices that never had the key", KEYED, """
                follow(2, 1) = 0
                destroy(0, 0) = 0
                follow(1, 0) = 1
                trust(0, 1, false) = true
                follow(2, 1) = 1
                zeroise(1) = 1
                follow(1, 2) = 1
                has(1, 0) = false
                """);
        Story.tell("Terms: to follow is not to forget what was destroyed, but by recovering", COPIED, """
                addPerson(0) = 0
                addPerson(0) = 1
                share(0, 0, 2, 3) = 2
                destroy(0, 0) = 1
                follow(1, 0) = -1
                logIn(0, 1) = -1
                logIn(1, 1) = -1
                recover(1, 0) = true
                follow(0, 1) = 0
                has(0, 0) = false
                follow(1, 0) = -1
                has(1, 0) = false
                """);
    }

    private static void followRefused() {
        Story.tell("17: there is no such device, for either", KEYED, Story.each(Story.INDEX, "follow(3, 0)", "follow(0, 3)",
                "follow(-1, 0)", "follow(0, -1)", "follow(2147483647, 0)", "follow(0, 2147483647)",
                "follow(-2147483648, 0)", "follow(0, -2147483648)"));
        Story.tell("17: they do not trust each other", KEYED, Story.each(Story.UNSUPPORTED, "follow(2, 0)", "follow(0, 2)"),
                "trust(1, 0, false) = true", Story.each(Story.UNSUPPORTED, "follow(1, 0)", "follow(0, 1)"),
                "trust(1, 0, true) = false", "follow(1, 0) = 2");
        Story.tell("17: no device trusts itself", KEYED,
                Story.each(Story.UNSUPPORTED, "follow(0, 0)", "follow(1, 1)", "follow(2, 2)"));
        Story.tell("17: the rule does not permit it", KEYED, "setRule(c, 1, -1) = 0",
                Story.each(Story.STATE, "follow(1, 0)", "follow(0, 1)"));
        Story.tell("17: the exceptions in their order", KEYED, "setRule(c, 1, -1) = 0",
                Story.each(Story.INDEX, "follow(3, 0)", "follow(0, 3)", "follow(3, 3)", "follow(-1, -1)"),
                Story.each(Story.UNSUPPORTED, "follow(2, 0)", "follow(0, 2)", "follow(1, 1)"));
    }

    public static void main(String[] args) {
        promise15();
        promise16();
        promise17();
        followRefused();
        Story.end("CopiesTest");
    }
}
