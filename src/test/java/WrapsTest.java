/** Promises 18 to 20, and what the terms say of wrapping and of reach. */
public final class WrapsTest {
    /**
     * Two devices. Device 0 has key 0 (strength 2, all flags, 10 + 5 days), 1 (2, may only leave, 1 day), 2 (3, may
     * only leave), 3 (1, all but leaving), 4 (1, all but wrapping) and 5 (2, may leave and wrap); device 1 has key 0.
     */
    private static final String KEYED = """
            addDevice() = 0
            addDevice() = 1
            trust(0, 1, true) = false
            generate(0, 2, 15, 10, 5) = 0
            follow(1, 0) = 1
            generate(0, 2, 1, 1, 0) = 1
            generate(0, 3, 1, 100, 0) = 2
            generate(0, 1, 14, 100, 0) = 3
            generate(0, 1, 13, 100, 0) = 4
            generate(0, 2, 3, 100, 0) = 5
            """;

    private static final String FORBIDDEN = "setRule(w, 1, -1) = 0\nsetRule(u, 1, -1) = 0\n";

    private static final String FULL = KEYED + Story.lines(0, 59, wrap -> "wrap(0, 0, 1) = " + wrap);

    private static void promise18() {
        Story.tell("18: wraps are numbered from 0", KEYED, "wrap(0, 0, 1) = 0", "wrap(0, 0, 4) = 1", "wrap(0, 0, 1) = 2",
                "wrap(0, 5, 0) = 3", "wrap(0, 0, 5) = 4", "has(1, 1) = false");
        Story.tell("18: at most 60 wraps", FULL, Story.each(Story.STATE, "wrap(0, 0, 1)", "wrap(0, 5, 4)"),
                "unwrap(1, 59) = 1", "unwrap(1, 60) throws IndexOutOfBoundsException");
        Story.tell("18, 19: each of 24 keys by the one before it, and all are unwrapped at another device",
                "addDevice() = 0", "addDevice() = 1", "trust(0, 1, true) = false", "generate(0, 1, 15, 9, 9) = 0",
                "follow(1, 0) = 1", Story.lines(1, 23, key -> "generate(0, 1, 15, 9, 9) = " + key),
                Story.lines(1, 23, key -> "wrap(0, " + (key - 1) + ", " + key + ") = " + (key - 1)),
                Story.lines(0, 22, wrap -> "unwrap(1, " + wrap + ") = " + (wrap + 1)),
                Story.lines(0, 22, key -> "wrap(1, " + (key + 1) + ", " + key + ") = " + (key + 23)), "zeroise(1) = 24");
        for (int by = 1; by <= 3; by++) {
            for (int key = 1; key <= 3; key++) {
                Story.tell("Terms: strength " + key + " by strength " + by, "addDevice() = 0",
                        "generate(0, " + by + ", 15, 1, 0) = 0", "generate(0, " + key + ", 15, 1, 0) = 1",
                        by >= key ? "wrap(0, 0, 1) = 0" : "wrap(0, 0, 1) throws UnsupportedOperationException");
            }
        }
        for (int flags = 0; flags < 16; flags++) {
            String generate = "generate(0, 1, " + flags + ", 1, 0) = 1";
            Story.tell("Terms: the other one may wrap, by its flags " + flags, "addDevice() = 0", "generate(0, 1, 15, 1, 0) = 0",
                    generate, (flags & 2) != 0 ? "wrap(0, 1, 0) = 0" : "wrap(0, 1, 0) throws UnsupportedOperationException");
            Story.tell("Terms: the key may leave, by its flags " + flags, "addDevice() = 0", "generate(0, 1, 15, 1, 0) = 0",
                    generate, (flags & 1) != 0 ? "wrap(0, 0, 1) = 0" : "wrap(0, 0, 1) throws UnsupportedOperationException");
        }
        Story.tell("Terms: the wrapping key need not leave, and the key need not wrap", """
                addDevice() = 0
                generate(0, 1, 2, 1, 0) = 0
                generate(0, 1, 1, 1, 0) = 1
                wrap(0, 0, 1) = 0
                wrap(0, 1, 0) throws UnsupportedOperationException
                """);
        Story.tell("Terms: flags that were taken away", KEYED, "tighten(0, 13) = 13",
                Story.each(Story.UNSUPPORTED, "wrap(0, 0, 1)"), "wrap(0, 5, 0) = 0", "tighten(0, 12) = 12",
                Story.each(Story.UNSUPPORTED, "wrap(0, 5, 0)"), "wrap(0, 5, 1) = 1");
    }

    private static void wrapDays() {
        Story.tell("Terms: the wrapping key is active", KEYED, """
                advance(9) = 9
                wrap(0, 0, 4) = 0
                advance(1) = 10
                wrap(0, 0, 4) throws UnsupportedOperationException
                wrap(0, 5, 4) = 1
                advance(5) = 15
                wrap(0, 0, 4) throws UnsupportedOperationException
                """);
        Story.tell("Terms: a wrapping key that is rotated is not active", KEYED, """
                rotate(0, 0) = 6
                wrap(0, 0, 4) throws UnsupportedOperationException
                wrap(0, 6, 4) = 0
                wrap(0, 6, 0) = 1
                """);
        Story.tell("Terms: the key need not be active", KEYED, "advance(1) = 1", "stage(1) = x", "wrap(0, 0, 1) = 0",
                "advance(9) = 10", "stage(0) = r", "wrap(0, 5, 0) = 1");
    }

    private static void wrapRefused() {
        Story.tell("18: there is no such device, or key, for either", KEYED, Story.each(Story.INDEX, "wrap(2, 0, 1)",
                "wrap(-1, 0, 1)", "wrap(0, 6, 1)", "wrap(0, -1, 1)", "wrap(0, 0, 6)", "wrap(0, 0, -1)",
                "wrap(2147483647, 0, 1)", "wrap(0, 2147483647, 1)", "wrap(0, 0, 2147483647)",
                "wrap(-2147483648, 0, 1)", "wrap(0, -2147483648, 1)", "wrap(0, 0, -2147483648)"));
        Story.tell("18: both keys are the same", KEYED, Story.each(Story.ARGUMENT, "wrap(0, 0, 0)", "wrap(0, 5, 5)"));
        Story.tell("18: the device has not both copies", KEYED, Story.each(Story.UNSUPPORTED, "wrap(1, 0, 1)",
                "wrap(1, 5, 0)", "wrap(1, 5, 4)"), "destroy(0, 1) = 0", Story.each(Story.UNSUPPORTED, "wrap(0, 0, 1)"));
        Story.tell("18: it cannot be: it may not leave, may not wrap, is weaker", KEYED,
                Story.each(Story.UNSUPPORTED, "wrap(0, 0, 3)", "wrap(0, 4, 0)", "wrap(0, 0, 2)", "wrap(0, 3, 0)"));
        Story.tell("18: the rule does not permit it", KEYED, FORBIDDEN, Story.each(Story.STATE, "wrap(0, 0, 1)"));
        Story.tell("18: no such device or key comes first", FULL, FORBIDDEN, Story.each(Story.INDEX, "wrap(2, 0, 0)",
                "wrap(-1, 0, 1)", "wrap(0, 6, 6)", "wrap(0, -1, -1)", "wrap(1, 5, 6)", "wrap(1, 6, 5)"));
        Story.tell("18: both the same comes second", FULL, FORBIDDEN,
                Story.each(Story.ARGUMENT, "wrap(1, 5, 5)", "wrap(0, 4, 4)", "wrap(0, 0, 0)"));
        Story.tell("18: that it cannot be comes before 60 wraps", FULL, Story.each(Story.UNSUPPORTED, "wrap(1, 0, 1)",
                "wrap(1, 5, 0)", "wrap(0, 0, 2)", "wrap(0, 0, 3)", "wrap(0, 4, 0)"));
        Story.tell("18: that it cannot be comes before the rule", KEYED, FORBIDDEN, Story.each(Story.UNSUPPORTED,
                "wrap(1, 0, 1)", "wrap(1, 5, 0)", "wrap(0, 0, 2)", "wrap(0, 0, 3)", "wrap(0, 4, 0)"),
                "advance(10) = 10", Story.each(Story.UNSUPPORTED, "wrap(0, 0, 1)"));
    }

    /** Wrap 0 holds key 1 by key 0, wrap 1 key 4 by key 5. */
    private static final String WRAPPED = KEYED + """
            wrap(0, 0, 1) = 0
            wrap(0, 5, 4) = 1
            """;

    private static void promise19() {
        Story.tell("19: the key gets a copy", WRAPPED, "has(1, 1) = false", "unwrap(1, 0) = 1", "has(1, 1) = true",
                "has(0, 1) = true", "unwrap(1, 0) = 1", "unwrap(0, 0) = 1", "has(1, 4) = false");
        Story.tell("19: each of 60 wraps", FULL, Story.lines(0, 59, wrap -> "unwrap(1, " + wrap + ") = 1"));
        Story.tell("Terms: a key of which there is no copy any more", WRAPPED, """
                follow(1, 0) = 5
                wrap(1, 0, 4) = 2
                zeroise(0) = 6
                zeroise(1) = 6
                unwrap(0, 0) throws UnsupportedOperationException
                generate(0, 3, 15, 9, 9) = 6
                unwrap(0, 0) throws UnsupportedOperationException
                """);
        Story.tell("Terms: a key whose last copy a zeroised device had", WRAPPED, "zeroise(0) = 6", "unwrap(1, 0) = 1",
                "has(1, 1) = true", "follow(0, 1) = 2", "unwrap(0, 0) = 1");
        for (int flags = 0; flags < 16; flags++) {
            boolean may = (flags & 8) != 0;
            Story.tell("Terms: the wrapping key may decipher, by its flags " + flags, "addDevice() = 0",
                    "generate(0, 1, 15, 1, 0) = 0", "generate(0, 1, 15, 1, 0) = 1", "wrap(0, 0, 1) = 0",
                    "tighten(0, " + flags + ") = " + flags,
                    may ? "unwrap(0, 0) = 1" : "unwrap(0, 0) throws UnsupportedOperationException");
        }
        Story.tell("Terms: the wrapping key has not expired", WRAPPED, """
                advance(10) = 10
                stage(0) = r
                unwrap(1, 0) = 1
                advance(4) = 14
                stage(0) = r
                unwrap(1, 0) = 1
                advance(1) = 15
                stage(0) = x
                unwrap(1, 0) throws UnsupportedOperationException
                unwrap(0, 0) throws UnsupportedOperationException
                """);
        Story.tell("Terms: a rotated key unwraps as long as it can read", WRAPPED, "rotate(0, 0) = 6", "advance(4) = 4",
                "unwrap(1, 0) = 1", "advance(1) = 5", "unwrap(1, 0) throws UnsupportedOperationException");
        Story.tell("Terms: the key may have expired, and its flags be taken away", WRAPPED, "advance(3) = 3",
                "tighten(1, 0) = 0", "unwrap(1, 0) = 1", "has(1, 1) = true", "flags(1) = 0");
        Story.tell("Terms: to unwrap adds no flags, nor takes others away", KEYED, """
                wrap(0, 5, 0) = 0
                tighten(0, 11) = 11
                wrap(0, 0, 4) = 1
                unwrap(1, 1) = 4
                flags(4) = 13
                tighten(4, 5) = 5
                unwrap(1, 1) = 4
                flags(4) = 5
                flags(0) = 11
                """);
        Story.tell("Terms: the device destroyed the key", WRAPPED, """
                unwrap(1, 0) = 1
                destroy(1, 1) = 1
                unwrap(1, 0) throws UnsupportedOperationException
                unwrap(0, 0) = 1
                zeroise(1) = 1
                follow(1, 0) = 6
                unwrap(1, 0) = 1
                """);
        Story.tell("Terms: the device heard that the key was destroyed", WRAPPED, "destroy(0, 1) = 0", "follow(1, 0) = 4",
                "has(1, 1) = false", "unwrap(1, 0) throws UnsupportedOperationException");
    }

    private static void unwrapRefused() {
        Story.tell("19: there is no such device, or wrap", WRAPPED, Story.each(Story.INDEX, "unwrap(2, 0)", "unwrap(-1, 0)",
                "unwrap(0, 2)", "unwrap(0, -1)", "unwrap(2147483647, 0)", "unwrap(0, 2147483647)",
                "unwrap(-2147483648, 0)", "unwrap(0, -2147483648)"));
        Story.tell("19: the device has no copy of the wrapping key", WRAPPED, Story.each(Story.UNSUPPORTED, "unwrap(1, 1)"),
                "zeroise(1) = 1", Story.each(Story.UNSUPPORTED, "unwrap(1, 0)"));
        Story.tell("19: a copy of the key alone unwraps nothing", WRAPPED, "unwrap(1, 0) = 1", "destroy(1, 0) = 1",
                "has(1, 1) = true", Story.each(Story.UNSUPPORTED, "unwrap(1, 0)"));
        Story.tell("19: the wrapping key may not decipher", WRAPPED, Story.each(Story.UNSUPPORTED, "unwrap(0, 1)"));
        Story.tell("19: the rule does not permit it", WRAPPED, FORBIDDEN, Story.each(Story.STATE, "unwrap(1, 0)", "unwrap(0, 0)"));
        Story.tell("19: no such device or wrap comes first", WRAPPED, FORBIDDEN,
                Story.each(Story.INDEX, "unwrap(2, 1)", "unwrap(-1, 0)", "unwrap(1, 2)", "unwrap(2, 2)"));
        Story.tell("19: that it cannot be comes before the rule", WRAPPED, "unwrap(1, 0) = 1", "destroy(1, 1) = 1", FORBIDDEN,
                Story.each(Story.UNSUPPORTED, "unwrap(1, 0)", "unwrap(1, 1)", "unwrap(0, 1)"),
                "unwrap(0, 0) throws IllegalStateException", "advance(15) = 15",
                Story.each(Story.UNSUPPORTED, "unwrap(0, 0)"));
    }

    private static void promise20() {
        Story.tell("20: a key can reach a device that has a copy", KEYED, "canReach(3, 0) = true", "canReach(3, 1) = false",
                "canReach(0, 1) = true", "advance(500) = 500", "canReach(0, 1) = true", "canReach(3, 0) = true");
        Story.tell("20: by a wrap that could be made", KEYED, "canReach(1, 1) = true", "canReach(4, 1) = true",
                "canReach(5, 1) = true");
        Story.tell("20: it may not leave, or is stronger", KEYED, "canReach(3, 1) = false", "canReach(2, 1) = false");
        Story.tell("20: nothing is done", KEYED, "canReach(1, 1) = true", "has(1, 1) = false", "acts() = 7",
                "unwrap(1, 0) throws IndexOutOfBoundsException");
        Story.tell("20: no device has both copies", """
                addDevice() = 0
                addDevice() = 1
                generate(0, 1, 15, 9, 9) = 0
                generate(1, 1, 15, 9, 9) = 1
                canReach(0, 1) = false
                canReach(1, 0) = false
                """);
        Story.tell("20: the wrapping key is active, or a wrap is there", WRAPPED, """
                advance(9) = 9
                canReach(4, 1) = true
                advance(1) = 10
                canReach(4, 1) = false
                canReach(1, 1) = true
                advance(4) = 14
                canReach(1, 1) = true
                advance(1) = 15
                canReach(1, 1) = false
                """);
        Story.tell("20: a wrapping key that has expired, and has its copies", WRAPPED, "advance(15) = 15",
                "canReach(0, 1) = true", "canReach(1, 0) = true", "canReach(1, 1) = false");
        Story.tell("20: the wrapping key may wrap, and may decipher", WRAPPED, """
                tighten(0, 13) = 13
                canReach(4, 1) = false
                canReach(1, 1) = true
                tighten(0, 5) = 5
                canReach(1, 1) = false
                """);
        Story.tell("20: the key may leave, or a wrap is there", WRAPPED, """
                tighten(1, 0) = 0
                tighten(4, 12) = 12
                canReach(1, 1) = true
                canReach(4, 1) = false
                """);
        Story.tell("20: all quorums are there", WRAPPED, "setRule(w, 8, 2) = 0", "setRule(u, 8, 2) = 0",
                "canReach(1, 1) = true", "canReach(4, 1) = true");
        Story.tell("20: as if no device had destroyed a copy", WRAPPED, """
                unwrap(1, 0) = 1
                destroy(1, 1) = 1
                unwrap(1, 0) throws UnsupportedOperationException
                canReach(1, 1) = true
                """);
        Story.tell("20: a copy that was destroyed is not there", WRAPPED, "destroy(1, 0) = 1", "canReach(1, 1) = false",
                "canReach(0, 1) = false", "destroy(0, 3) = 0", "canReach(3, 0) = false");
        Story.tell("20: a key of which there is no copy, but a wrap", WRAPPED, "destroy(0, 1) = 0", "destroy(0, 4) = 0",
                "canReach(1, 0) = true", "canReach(1, 1) = true", "canReach(4, 0) = false", "canReach(4, 1) = false");
        Story.tell("20: following, deriving and recovering are not wrapping", """
                addDevice() = 0
                addDevice() = 1
                trust(0, 1, true) = false
                addPerson(0) = 0
                addPerson(0) = 1
                logIn(0, 1) = -1
                logIn(1, 1) = -1
                generate(0, 1, 15, 9, 9) = 0
                share(0, 0, 2, 3) = 2
                generate(1, 1, 12, 9, 9) = 1
                derive(1, 1, 0, 12) = 2
                destroy(1, 2) = 0
                canReach(0, 1) = false
                canReach(2, 1) = false
                recover(1, 0) = true
                canReach(0, 1) = true
                """);
    }

    private static void longReach() {
        Story.tell("20: over any number of keys and devices", """
                addDevice() = 0
                addDevice() = 1
                addDevice() = 2
                trust(0, 1, true) = false
                trust(0, 2, true) = false
                generate(0, 3, 14, 9, 0) = 0
                follow(1, 0) = 1
                follow(2, 0) = 1
                generate(0, 3, 15, 9, 0) = 1
                generate(1, 3, 15, 9, 0) = 2
                generate(1, 2, 1, 9, 0) = 3
                canReach(3, 2) = true
                wrap(1, 2, 3) = 0
                destroy(1, 3) = 0
                canReach(3, 2) = true
                canReach(3, 0) = true
                canReach(3, 1) = true
                tighten(2, 6) = 6
                canReach(3, 0) = false
                canReach(3, 1) = false
                """);
        Story.tell("20: over wraps in a row, the later ones first", CHAIN, Story.lines(1, 5, key -> "destroy(0, " + key + ")"),
                Story.lines(0, 5, key -> "canReach(" + key + ", 1) = " + (key != 5)), "canReach(5, 0) = false");
        Story.tell("20: over wraps in a row, one of which cannot be unwrapped", CHAIN, "tighten(2, 7) = 7",
                Story.lines(1, 5, key -> "destroy(0, " + key + ")"),
                Story.lines(0, 5, key -> "canReach(" + key + ", 1) = " + (key <= 2)));
        Story.tell("20: keys that wrap each other", """
                addDevice() = 0
                addDevice() = 1
                generate(0, 2, 15, 9, 9) = 0
                generate(0, 2, 15, 9, 9) = 1
                wrap(0, 0, 1) = 0
                wrap(0, 1, 0) = 1
                destroy(0, 0) = 0
                canReach(0, 0) = true
                canReach(0, 1) = false
                canReach(1, 1) = false
                destroy(0, 1) = 0
                canReach(0, 0) = false
                canReach(1, 0) = false
                """);
        Story.tell("20: a wrapping key that comes to another device first, and wraps there", """
                addDevice() = 0
                addDevice() = 1
                trust(0, 1, true) = false
                generate(0, 2, 15, 9, 9) = 0
                follow(1, 0) = 1
                generate(0, 2, 15, 9, 9) = 1
                generate(1, 2, 1, 9, 9) = 2
                wrap(0, 0, 1) = 0
                tighten(0, 8) = 8
                canReach(1, 1) = true
                canReach(2, 0) = true
                tighten(1, 13) = 13
                canReach(1, 1) = true
                canReach(2, 0) = false
                """);
        Story.tell("20: only by wrapping keys that are strong enough", """
                addDevice() = 0
                addDevice() = 1
                addDevice() = 2
                trust(0, 1, true) = false
                generate(0, 1, 14, 9, 9) = 0
                follow(1, 0) = 1
                generate(0, 2, 14, 9, 9) = 1
                trust(0, 2, true) = false
                follow(2, 0) = 2
                generate(1, 1, 15, 9, 9) = 2
                generate(1, 2, 15, 9, 9) = 3
                canReach(2, 0) = true
                canReach(3, 0) = false
                generate(0, 2, 15, 9, 9) = 4
                canReach(4, 1) = false
                canReach(4, 2) = true
                """);
    }

    /** Device 1 has key 0 alone; wraps hold key 1 by key 0, 2 by 1, 3 by 2, 4 by 3; the first made is that of 4. */
    private static final String CHAIN = """
            addDevice() = 0
            addDevice() = 1
            trust(0, 1, true) = false
            generate(0, 1, 15, 9, 9) = 0
            follow(1, 0) = 1
            generate(0, 1, 15, 9, 9) = 1
            generate(0, 1, 15, 9, 9) = 2
            generate(0, 1, 15, 9, 9) = 3
            generate(0, 1, 15, 9, 9) = 4
            generate(0, 1, 15, 9, 9) = 5
            wrap(0, 3, 4) = 0
            wrap(0, 2, 3) = 1
            wrap(0, 1, 2) = 2
            wrap(0, 0, 1) = 3
            """;

    private static void reachAtTheEnds() {
        Story.tell("20: the key 0, which is wrapped by another one", """
                addDevice() = 0
                addDevice() = 1
                trust(0, 1, true) = false
                generate(0, 1, 1, 9, 9) = 0
                generate(1, 1, 10, 9, 9) = 1
                canReach(0, 1) = false
                follow(0, 1) = 1
                canReach(0, 1) = true
                canReach(1, 0) = true
                """);
        Story.tell("20: with 60 wraps", FULL, "canReach(1, 1) = true", "canReach(0, 0) = true", "canReach(2, 1) = false",
                "canReach(3, 1) = false", "advance(10) = 10", "canReach(1, 1) = true", "isSound() = true", "advance(5) = 15",
                "canReach(1, 1) = false");
        Story.tell("20: with 24 keys at 4 devices", "addDevice()\naddDevice()\naddDevice()\naddDevice()",
                "trust(3, 0, true) = false", "generate(3, 3, 15, 9, 9) = 0", "follow(0, 3) = 1",
                Story.lines(1, 23, key -> "generate(3, 1, " + (key == 22 ? 14 : 15) + ", 9, 9) = " + key),
                Story.lines(0, 23, key -> "canReach(" + key + ", 0) = " + (key != 22)),
                Story.lines(0, 23, key -> "canReach(" + key + ", 1) = false"),
                Story.lines(0, 23, key -> "canReach(" + key + ", 2) = false"),
                Story.lines(0, 23, key -> "canReach(" + key + ", 3) = true"), "isSound() = true");
    }

    /**
     * Device 1 has key 23 alone; each of the keys 0 to 22, of which there is no copy, is in a wrap by the next one,
     * so that only one after the other can be unwrapped, from the last to the first.
     */
    private static final String LONG_CHAIN = "addDevice() = 0\naddDevice() = 1\ntrust(0, 1, true) = false\n"
            + Story.lines(0, 22, key -> "generate(0, 1, 15, 9, 9) = " + key)
            + "generate(1, 1, 14, 9, 9) = 23\nfollow(0, 1) = 1\n"
            + Story.lines(0, 22, key -> "wrap(0, " + (key + 1) + ", " + key + ") = " + key) + "zeroise(0) = 24\n";

    /**
     * The devices 0 to 3 in a row; each two neighbours have a key of their own, 0, 1 and 2, which wraps and deciphers
     * and may not leave. Device 0 has key 3, which may leave, and device 3 has key 4, which may leave.
     */
    private static final String ROW = """
            addDevice() = 0
            addDevice() = 1
            addDevice() = 2
            addDevice() = 3
            trust(0, 1, true) = false
            trust(1, 2, true) = false
            trust(2, 3, true) = false
            generate(0, 1, 10, 9, 9) = 0
            follow(1, 0) = 1
            generate(2, 1, 10, 9, 9) = 1
            follow(1, 2) = 1
            generate(3, 1, 10, 9, 9) = 2
            follow(2, 3) = 1
            generate(0, 1, 1, 9, 9) = 3
            generate(3, 1, 1, 9, 9) = 4
            """;

    /**
     * Device 1 has keys 18 and 19, device 2 has key 0, and each of the keys 0 to 18 is in a wrap by the next one. Only
     * key 0 may wrap, and only key 19 may leave, so that key 0 must have come to device 1 before key 19 can come to
     * device 2, and then all others behind it.
     */
    private static final String TWO_CHAINS = "addDevice() = 0\naddDevice() = 1\naddDevice() = 2\n"
            + "trust(0, 1, true) = false\ntrust(0, 2, true) = false\ngenerate(0, 1, 15, 9, 9) = 0\nfollow(2, 0) = 1\n"
            + Story.lines(1, 17, key -> "generate(0, 1, 15, 9, 9) = " + key)
            + "generate(1, 1, 15, 9, 9) = 18\ngenerate(1, 1, 15, 9, 9) = 19\nfollow(0, 1) = 2\n"
            + Story.lines(0, 18, key -> "wrap(0, " + (key + 1) + ", " + key + ") = " + key) + "zeroise(0) = 20\n"
            + Story.lines(1, 18, key -> "tighten(" + key + ", 8) = 8") + "tighten(0, 14) = 14\ntighten(19, 9) = 9\n";

    private static void reachByManyActs() {
        Story.tell("20: over 23 wraps in a row, the last one first", LONG_CHAIN,
                Story.lines(0, 23, key -> "canReach(" + key + ", 1) = true"),
                Story.lines(0, 23, key -> "canReach(" + key + ", 0) = false"), "tighten(11, 7) = 7",
                Story.lines(0, 22, key -> "canReach(" + key + ", 1) = " + (key > 10)), "isSound() = true");
        Story.tell("20: over 18 wraps at a device, and 19 more at another one", TWO_CHAINS, "canReach(1, 2) = true",
                Story.lines(0, 19, key -> "canReach(" + key + ", 1) = true\ncanReach(" + key + ", 2) = true\n"
                        + "canReach(" + key + ", 0) = false"), "tighten(0, 8) = 8",
                Story.lines(0, 19, key -> "canReach(" + key + ", 1) = true\ncanReach(" + key + ", 2) = " + (key == 0)));
        Story.tell("20: over all devices in a row, there and back", ROW,
                Story.lines(0, 3, device -> "canReach(3, " + device + ") = true\ncanReach(4, " + device + ") = true\n"
                        + "canReach(1, " + device + ") = " + (device == 1 || device == 2)), "tighten(1, 8) = 8",
                Story.lines(0, 3, device -> "canReach(3, " + device + ") = " + (device <= 1) + "\n"
                        + "canReach(4, " + device + ") = " + (device >= 2)));
        Story.tell("20: any number of acts, also where there are 60 wraps", FULL, "canReach(4, 1) = true",
                "canReach(5, 1) = true", "wrap(0, 0, 4) throws IllegalStateException", "canReach(4, 1) = true");
        Story.tell("20: over each of many wraps by one key", KEYED, "wrap(0, 0, 1) = 0", "wrap(0, 0, 4) = 1",
                "wrap(0, 0, 5) = 2", "zeroise(0) = 6", "canReach(1, 1) = true", "canReach(4, 1) = true",
                "canReach(5, 1) = true", "canReach(2, 1) = false", "canReach(1, 0) = false");
    }

    /** What could be wrapped once, and was not, cannot come when the wrapping key may wrap no more, or is not active. */
    private static void reachThatEnds() {
        for (int number = 0; number < 23; number++) {
            int by = number;
            String keys = "addDevice() = 0\naddDevice() = 1\ntrust(0, 1, true) = false\n"
                    + Story.lines(0, by - 1, key -> "generate(0, 1, 0, 1, 0) = " + key)
                    + "generate(0, 1, 14, 9, 9) = " + by + "\nfollow(1, 0) = " + (by + 1) + "\n"
                    + "generate(0, 1, 1, 9, 9) = " + (by + 1) + "\n";
            String canReach = "canReach(" + (by + 1) + ", 1) = ";
            Story.tell("20: what key " + by + " could wrap, and may no more", keys, canReach + "true",
                    "tighten(" + by + ", 12) = 12", canReach + "false", canReach + "false");
            Story.tell("20: what key " + by + " could wrap, and is active no more", keys, canReach + "true",
                    "advance(9) = 9", canReach + "false", "isSound() = true", canReach + "false");
        }
    }

    private static void reachRefused() {
        Story.tell("20: there is no such key, or device", KEYED, Story.each(Story.INDEX, "canReach(6, 0)", "canReach(-1, 0)",
                "canReach(0, 2)", "canReach(0, -1)", "canReach(2147483647, 0)", "canReach(0, 2147483647)",
                "canReach(-2147483648, 0)", "canReach(0, -2147483648)"));
    }

    public static void main(String[] args) {
        promise18();
        wrapDays();
        wrapRefused();
        promise19();
        unwrapRefused();
        promise20();
        longReach();
        reachAtTheEnds();
        reachByManyActs();
        reachThatEnds();
        reachRefused();
        Story.end("WrapsTest");
    }
}
