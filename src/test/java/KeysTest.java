/** Promises 8 to 14, and what the terms say of time and keys. */
public final class KeysTest {
    /** Two devices, a person; at device 0 key 0 (strength 3, flags 15, 10 + 5 days) and 1 (1, 14, 2 + 0 days). */
    private static final String KEYED = """
            addDevice() = 0
            addDevice() = 1
            addPerson(1) = 0
            generate(0, 3, 15, 10, 5) = 0
            generate(0, 1, 14, 2, 0) = 1
            """;

    private static final String FORBIDDEN = "setRule(g, 1, -1) = 0\n";

    /** Key 2 is derived from key 0; 22 keys are there then. */
    private static final String TWENTY_TWO = KEYED + "derive(0, 0, 9, 15) = 2\n"
            + Story.lines(3, 21, key -> "generate(1, 2, 15, 3, 3) = " + key);

    private static final String FULL = TWENTY_TWO + "generate(0, 1, 0, 1, 0) = 22\ngenerate(0, 1, 0, 1, 0) = 23\n";

    private static void promise8() {
        Story.tell("8: keys are numbered from 0, and get a copy at their device alone", KEYED, """
                generate(1, 2, 4, 1, 0) = 2
                flags(2) = 4
                stage(2) = a
                has(1, 2) = true
                has(0, 2) = false
                has(0, 1) = true
                has(1, 1) = false
                """);
        Story.tell("8: the least and the greatest numbers", "addDevice() = 0", """
                generate(0, 1, 0, 1, 0) = 0
                generate(0, 3, 15, 500, 500) = 1
                flags(0) = 0
                flags(1) = 15
                """);
        Story.tell("8: there is no such device", KEYED, Story.each(Story.INDEX, "generate(2, 1, 0, 1, 0)",
                "generate(-1, 1, 0, 1, 0)", "generate(2147483647, 1, 0, 1, 0)", "generate(-2147483648, 1, 0, 1, 0)"));
        Story.tell("8: the strength is 1 to 3", KEYED, Story.each(Story.ARGUMENT, "generate(0, 0, 0, 1, 0)",
                "generate(0, 4, 0, 1, 0)", "generate(0, -1, 0, 1, 0)", "generate(0, 2147483647, 0, 1, 0)",
                "generate(0, -2147483648, 0, 1, 0)"), "generate(0, 2, 0, 1, 0) = 2");
        Story.tell("8: the flags are 0 to 15", KEYED, Story.each(Story.ARGUMENT, "generate(0, 1, -1, 1, 0)",
                "generate(0, 1, 16, 1, 0)", "generate(0, 1, 31, 1, 0)", "generate(0, 1, 2147483647, 1, 0)",
                "generate(0, 1, -2147483648, 1, 0)"), Story.lines(0, 15, flags -> "generate(0, 1, " + flags + ", 1, 0)"),
                Story.lines(0, 15, flags -> "flags(" + (flags + 2) + ") = " + flags));
        Story.tell("8: the life is 1 to 500", KEYED, Story.each(Story.ARGUMENT, "generate(0, 1, 0, 0, 0)",
                "generate(0, 1, 0, 501, 0)", "generate(0, 1, 0, -1, 0)", "generate(0, 1, 0, 2147483647, 0)",
                "generate(0, 1, 0, -2147483648, 0)"));
        Story.tell("8: the time of reading is 0 to 500", KEYED, Story.each(Story.ARGUMENT, "generate(0, 1, 0, 1, -1)",
                "generate(0, 1, 0, 1, 501)", "generate(0, 1, 0, 1, 2147483647)", "generate(0, 1, 0, 1, -2147483648)"));
        Story.tell("8: the rule does not permit it", KEYED, FORBIDDEN,
                Story.each(Story.STATE, "generate(0, 1, 0, 1, 0)", "generate(1, 3, 15, 500, 500)"),
                "logIn(0, 1) = -1", "generate(0, 1, 0, 1, 0) throws IllegalStateException", "generate(1, 1, 0, 1, 0) = 2");
        Story.tell("8: at most 24 keys", FULL, Story.each(Story.STATE, "generate(0, 1, 0, 1, 0)",
                "generate(1, 3, 15, 500, 500)"), "flags(23) = 0", "flags(24) throws IndexOutOfBoundsException");
        Story.tell("8: no such device comes first", FULL, "setRule(g, 8, -1)",
                Story.each(Story.INDEX, "generate(2, 0, 16, 0, -1)", "generate(-1, 1, 0, 1, 0)"));
        Story.tell("8: a number out of range comes before the rule, and before 24 keys", FULL,
                Story.each(Story.ARGUMENT, "generate(0, 4, 0, 1, 0)", "generate(0, 1, 16, 1, 0)"), "setRule(g, 8, -1)",
                Story.each(Story.ARGUMENT, "generate(0, 1, 0, 501, 0)", "generate(0, 1, 0, 1, 501)"));
    }

    /** The first message of a house tells the secret of its key, if its value is 0. */
    private static void secretsOfGenerated() {
        for (int number = 0; number < 24; number++) {
            int strength = 1 + number % 3;
            int device = number / 3 % 4;
            int secret = Formulas.generated(number, strength, device);
            String generate = "generate(" + device + ", " + strength + ", 15, 1, 0) = " + number;
            Story.tell("Terms: the secret of key " + number, "addDevice()\naddDevice()\naddDevice()\naddDevice()",
                    Story.lines(0, number - 1, key -> "generate(3, 3, 0, 1, 0) = " + key), generate,
                    "encipher(" + device + ", " + number + ", 0) = 0", "cipher(0) = " + secret);
        }
    }

    private static void secretsAtTheEnds() {
        String fiveKeys = Story.lines(0, 4, key -> "generate(0, 1, 15, 1, 0) = " + key);
        Story.tell("Terms: the secret 250 is the greatest", "addDevice() = 0", fiveKeys, """
                generate(0, 2, 15, 1, 0) = 5
                encipher(0, 5, 0) = 0
                cipher(0) = 250
                """);
        Story.tell("Terms: the secret goes round to 0 at 251", "addDevice()\naddDevice()\naddDevice()", fiveKeys, """
                generate(2, 1, 15, 1, 0) = 5
                encipher(2, 5, 0) = 0
                cipher(0) = 0
                encipher(2, 5, 250) = 1
                cipher(1) = 250
                derive(2, 5, 99, 15) = 6
                encipher(2, 6, 0) = 2
                cipher(2) = 93
                """);
    }

    private static void daysOfGenerated() {
        Story.tell("13: active for as many days as the life, from the day on which it was made", KEYED, """
                stage(0) = a
                stage(1) = a
                advance(1) = 1
                stage(1) = a
                advance(1) = 2
                stage(1) = x
                advance(7) = 9
                stage(0) = a
                advance(1) = 10
                stage(0) = r
                advance(4) = 14
                stage(0) = r
                advance(1) = 15
                stage(0) = x
                advance(500) = 515
                stage(0) = x
                """);
        Story.tell("13: the days of a key that is made later", KEYED, """
                advance(500) = 500
                generate(0, 1, 0, 1, 1) = 2
                generate(0, 1, 0, 3, 0) = 3
                stage(2) = a
                advance(1) = 501
                stage(2) = r
                stage(3) = a
                advance(1) = 502
                stage(2) = x
                stage(3) = a
                advance(1) = 503
                stage(3) = x
                """);
        Story.tell("13: the longest life, and the longest time of reading", "addDevice() = 0", """
                generate(0, 1, 0, 500, 500) = 0
                generate(0, 1, 0, 500, 0) = 1
                generate(0, 1, 0, 1, 500) = 2
                advance(499) = 499
                stage(0) = a
                stage(1) = a
                stage(2) = r
                advance(1) = 500
                stage(0) = r
                stage(1) = x
                stage(2) = r
                advance(1) = 501
                stage(2) = x
                advance(498) = 999
                stage(0) = r
                advance(1) = 1000
                stage(0) = x
                """);
        Story.tell("13: a key of the last day", "addDevice() = 0", Story.lines(1, 19, times -> "advance(500)"),
                "advance(499) = 9999", "generate(0, 1, 0, 500, 500) = 0", "stage(0) = a");
        Story.tell("13: an expired copy is one", KEYED, "advance(2) = 2", "has(0, 1) = true", "flags(1) = 14");
    }

    /** Key 2 is derived from key 0 with the label 99 on day 1. */
    private static final String DERIVED = KEYED + """
            advance(1) = 1
            derive(0, 0, 99, 6) = 2
            """;

    private static void promise9() {
        Story.tell("9: a derived key gets a copy at the device", DERIVED, "has(0, 2) = true", "has(1, 2) = false",
                "stage(2) = a", "generate(0, 1, 0, 1, 0) = 3");
        Story.tell("Terms: its flags are those told that the parent has, too", DERIVED, """
                flags(2) = 6
                derive(0, 1, 0, 15) = 3
                flags(3) = 14
                tighten(0, 12) = 12
                derive(0, 0, 0, 7) = 4
                flags(4) = 4
                derive(0, 0, 1, 0) = 5
                flags(5) = 0
                """);
        Story.tell("Terms: a parent without flags has derived keys, too", DERIVED, "tighten(0, 0) = 0",
                "derive(0, 0, 0, 15) = 3", "flags(3) = 0", "has(0, 3) = true", "derive(0, 0, 99, 15) = 2", "flags(2) = 6");
        Story.tell("Terms: its flags stay when the parent's are taken away", DERIVED, """
                tighten(0, 0) = 0
                flags(2) = 6
                tighten(2, 2) = 2
                flags(0) = 0
                """);
        Story.tell("Terms: its own flags can be taken away without the parent's", DERIVED, "tighten(2, 2) = 2",
                "flags(2) = 2", "flags(0) = 15");
        Story.tell("Terms: another label makes another key, and so does another parent", DERIVED, """
                derive(0, 0, 98, 6) = 3
                derive(0, 1, 99, 6) = 4
                derive(0, 2, 99, 6) = 5
                derive(0, 0, 99, 6) = 2
                derive(0, 0, 98, 6) = 3
                derive(0, 1, 99, 6) = 4
                derive(0, 2, 99, 6) = 5
                """);
        Story.tell("Terms: the same key again, with its flags", DERIVED, """
                derive(0, 0, 99, 15) = 2
                flags(2) = 6
                derive(0, 0, 99, 0) = 2
                flags(2) = 6
                tighten(2, 4) = 4
                derive(0, 0, 99, 15) = 2
                flags(2) = 4
                generate(0, 1, 0, 1, 0) = 3
                """);
        Story.tell("Terms: the same key again, on whatever device, whose copy it becomes", DERIVED, """
                trust(0, 1, true) = false
                follow(1, 0) = 3
                zeroise(0) = 3
                derive(1, 0, 5, 15) = 3
                has(0, 3) = false
                has(1, 3) = true
                """);
        Story.tell("Terms: the same key again on another device", KEYED, """
                trust(0, 1, true) = false
                follow(1, 0) = 2
                derive(0, 0, 7, 15) = 2
                has(1, 2) = false
                derive(1, 0, 7, 3) = 2
                has(1, 2) = true
                flags(2) = 15
                encipher(1, 2, 9) = 0
                read(0, 0) = 9
                """);
        Story.tell("9: the label is 0 to 99", KEYED, "derive(0, 0, 0, 0) = 2", "derive(0, 0, 99, 0) = 3",
                Story.each(Story.ARGUMENT, "derive(0, 0, -1, 0)", "derive(0, 0, 100, 0)", "derive(0, 0, 2147483647, 0)",
                        "derive(0, 0, -2147483648, 0)"));
        Story.tell("9: the flags are 0 to 15", KEYED, "derive(0, 0, 0, 0) = 2", "derive(0, 0, 1, 15) = 3", "flags(3) = 15",
                Story.each(Story.ARGUMENT, "derive(0, 0, 2, -1)", "derive(0, 0, 2, 16)", "derive(0, 0, 2, 2147483647)",
                        "derive(0, 0, 2, -2147483648)", "derive(0, 0, 0, 16)"));
        Story.tell("9: there is no such device, or key", DERIVED, Story.each(Story.INDEX, "derive(2, 0, 0, 0)",
                "derive(-1, 0, 0, 0)", "derive(0, 3, 0, 0)", "derive(0, -1, 0, 0)", "derive(2147483647, 0, 0, 0)",
                "derive(0, 2147483647, 0, 0)", "derive(-2147483648, 0, 0, 0)", "derive(0, -2147483648, 0, 0)"));
        Story.tell("9: the device has no copy of the parent", DERIVED,
                Story.each(Story.UNSUPPORTED, "derive(1, 0, 0, 15)", "derive(1, 0, 99, 15)", "derive(1, 2, 0, 15)"));
        Story.tell("9: the rule does not permit it", DERIVED, FORBIDDEN,
                Story.each(Story.STATE, "derive(0, 0, 0, 0)", "derive(0, 0, 99, 6)"), "logIn(0, 0) = -1", "derive(0, 0, 0, 0) = 3");
    }

    private static void deriveFull() {
        Story.tell("9: at most 24 keys", TWENTY_TWO, "derive(0, 0, 1, 15) = 22", "derive(0, 0, 2, 15) = 23",
                Story.each(Story.STATE, "derive(0, 0, 3, 15)", "generate(0, 1, 0, 1, 0)", "rotate(0, 0)"));
        // By the words of the promise it throws also for a key that there is already.
        Story.tell("9: there are 24 keys, and the key is one of them", FULL, "derive(0, 0, 9, 15) throws IllegalStateException");
        Story.tell("9: with 23 keys a key that there is already is derived anew", TWENTY_TWO, "derive(0, 0, 1, 15) = 22",
                "derive(0, 0, 9, 15) = 2");
        Story.tell("9: no such device or key comes first", FULL, "setRule(g, 8, -1)",
                Story.each(Story.INDEX, "derive(2, 0, 100, 16)", "derive(-1, 0, 100, -1)", "derive(0, 24, 100, 16)",
                        "derive(1, -1, -1, 0)"));
        Story.tell("9: a number out of range comes second", FULL, "setRule(g, 8, -1)",
                Story.each(Story.ARGUMENT, "derive(1, 0, 100, 0)", "derive(1, 0, 0, 16)", "derive(0, 0, -1, 0)",
                        "derive(0, 0, 0, -1)"));
        Story.tell("9: that it cannot be comes before the rule, and before 24 keys", FULL,
                Story.each(Story.UNSUPPORTED, "derive(1, 0, 0, 0)"), "advance(2) = 2",
                Story.each(Story.UNSUPPORTED, "derive(0, 1, 0, 0)"), "destroy(0, 2) = 0",
                Story.each(Story.UNSUPPORTED, "derive(0, 0, 9, 0)"), "setRule(g, 8, -1) = 0",
                Story.each(Story.UNSUPPORTED, "derive(1, 0, 0, 0)", "derive(0, 1, 0, 0)", "derive(0, 0, 9, 0)"));
    }

    private static void deriveDestroyed() {
        Story.tell("9: the device destroyed the key", DERIVED, "destroy(0, 2) = 0",
                Story.each(Story.UNSUPPORTED, "derive(0, 0, 99, 6)", "derive(0, 0, 99, 15)"),
                "derive(0, 0, 98, 6) = 3", "has(0, 2) = false");
        Story.tell("9: another device destroyed the key", DERIVED, """
                trust(0, 1, true) = false
                follow(1, 0) = 3
                destroy(1, 2) = 1
                derive(1, 0, 99, 6) throws UnsupportedOperationException
                derive(0, 0, 99, 6) = 2
                """);
        Story.tell("9: the device heard that the key was destroyed, and never had it", DERIVED, """
                destroy(0, 2) = 0
                trust(0, 1, true) = false
                follow(1, 0) = 2
                derive(1, 0, 99, 6) throws UnsupportedOperationException
                """);
        Story.tell("9: the device forgot that it destroyed the key", DERIVED, """
                trust(0, 1, true) = false
                follow(1, 0) = 3
                destroy(1, 2) = 1
                zeroise(1) = 2
                derive(1, 0, 99, 6) throws UnsupportedOperationException
                follow(1, 0) = 3
                derive(1, 0, 99, 6) = 2
                """);
        Story.tell("9: a parent that the device destroyed", DERIVED, "destroy(0, 0) = 0",
                Story.each(Story.UNSUPPORTED, "derive(0, 0, 99, 6)", "derive(0, 0, 1, 6)"), "derive(0, 2, 1, 6) = 3");
    }

    private static void secretsOfDerived() {
        for (int number = 0; number < 12; number++) {
            int parent = number;
            int label = number * 9;
            int secret = Formulas.derived(Formulas.generated(parent, 2, 0), label);
            Story.tell("Terms: the secret of a derived key, " + number, "addDevice() = 0",
                    Story.lines(0, parent, key -> "generate(0, 2, 15, 1, 0) = " + key),
                    "derive(0, " + parent + ", " + label + ", 15) = " + (parent + 1),
                    "encipher(0, " + (parent + 1) + ", 0) = 0", "cipher(0) = " + secret);
        }
        int first = Formulas.derived(15, 99);
        int second = Formulas.derived(first, 0);
        Story.tell("Terms: the secret is that of the parent, whatever the device", KEYED, "trust(0, 1, true) = false",
                "follow(1, 0) = 2", "derive(0, 0, 99, 15) = 2", "follow(1, 0) = 1", "derive(1, 2, 0, 15) = 3",
                "encipher(1, 3, 0) = 0", "cipher(0) = " + second, "encipher(0, 2, 0) = 1",
                "cipher(1) = " + Formulas.cipher(0, first, 1));
        Story.tell("Terms: the secret of a derived key goes round to 0 at 251", "addDevice() = 0", """
                generate(0, 2, 15, 1, 0) = 0
                derive(0, 0, 45, 15) = 1
                derive(0, 0, 20, 15) = 2
                encipher(0, 1, 0) = 0
                cipher(0) = 250
                encipher(0, 2, 0) = 1
                cipher(1) = 0
                """);
        Story.tell("Terms: the strength is that of its parent", """
                addDevice() = 0
                generate(0, 2, 15, 1, 0) = 0
                derive(0, 0, 0, 15) = 1
                generate(0, 2, 15, 1, 0) = 2
                generate(0, 3, 15, 1, 0) = 3
                generate(0, 1, 15, 1, 0) = 4
                wrap(0, 1, 2) = 0
                wrap(0, 1, 3) throws UnsupportedOperationException
                wrap(0, 2, 1) = 1
                wrap(0, 4, 1) throws UnsupportedOperationException
                """);
    }

    private static void daysOfDerived() {
        Story.tell("Terms: its days end with those of its parent", DERIVED, """
                advance(8) = 9
                stage(0) = a
                stage(2) = a
                advance(1) = 10
                stage(0) = r
                stage(2) = r
                advance(4) = 14
                stage(0) = r
                stage(2) = r
                advance(1) = 15
                stage(0) = x
                stage(2) = x
                """);
        Story.tell("Terms: its days end so, whatever becomes of the parent then", DERIVED, """
                rotate(0, 0) = 3
                stage(0) = r
                stage(2) = a
                advance(5) = 6
                stage(0) = x
                stage(2) = a
                advance(3) = 9
                stage(2) = a
                advance(1) = 10
                stage(2) = r
                advance(5) = 15
                stage(2) = x
                """);
        Story.tell("Terms: its life is the days until then", DERIVED, """
                rotate(0, 2) = 3
                advance(8) = 9
                stage(3) = a
                advance(1) = 10
                stage(3) = r
                advance(4) = 14
                stage(3) = r
                advance(1) = 15
                stage(3) = x
                """);
        Story.tell("Terms: a key that is derived on the last active day of its parent", KEYED, """
                advance(9) = 9
                derive(0, 0, 3, 15) = 2
                stage(2) = a
                advance(1) = 10
                stage(2) = r
                derive(0, 0, 4, 15) throws UnsupportedOperationException
                derive(0, 2, 4, 15) throws UnsupportedOperationException
                advance(4) = 14
                stage(2) = r
                advance(1) = 15
                stage(2) = x
                """);
        Story.tell("Terms: its days stay when it is derived anew", DERIVED, """
                advance(3) = 4
                derive(0, 0, 99, 6) = 2
                rotate(0, 2) = 3
                advance(8) = 12
                stage(3) = a
                advance(1) = 13
                stage(3) = r
                """);
        Story.tell("Terms: a derived key that is rotated is the same key again, and its days stay", DERIVED, """
                rotate(0, 2) = 3
                derive(0, 0, 99, 6) = 2
                stage(2) = r
                stage(3) = a
                advance(4) = 5
                stage(2) = r
                derive(0, 0, 99, 6) = 2
                advance(1) = 6
                stage(2) = x
                derive(0, 0, 99, 6) = 2
                stage(2) = x
                """);
        Story.tell("9: the parent is not active", KEYED, "derive(0, 1, 0, 0) = 2", "advance(2) = 2",
                Story.each(Story.UNSUPPORTED, "derive(0, 1, 0, 0)", "derive(0, 1, 1, 0)"), "rotate(0, 0) = 3",
                Story.each(Story.UNSUPPORTED, "derive(0, 0, 0, 0)"), "advance(8) = 10", "advance(5) = 15",
                Story.each(Story.UNSUPPORTED, "derive(0, 0, 0, 0)", "derive(0, 3, 0, 0)"));
    }

    private static void promise10() {
        Story.tell("10: the key behind is at the device alone", KEYED, "trust(0, 1, true) = false", "follow(1, 0) = 2",
                "rotate(1, 0) = 2", "has(1, 2) = true", "has(0, 2) = false", "has(0, 0) = true", "has(1, 0) = true",
                "rotate(0, 1) = 3");
        Story.tell("Terms: a rotated key can only read from this day on, for its time of reading", KEYED, """
                advance(3) = 3
                stage(0) = a
                rotate(0, 0) = 2
                stage(0) = r
                advance(4) = 7
                stage(0) = r
                advance(1) = 8
                stage(0) = x
                """);
        Story.tell("Terms: a rotated key without a time of reading has expired", KEYED, "rotate(0, 1) = 2",
                "stage(1) = x", "stage(2) = a");
        Story.tell("Terms: a key that is rotated on its last active day", KEYED, """
                advance(9) = 9
                rotate(0, 0) = 2
                stage(0) = r
                advance(4) = 13
                stage(0) = r
                advance(1) = 14
                stage(0) = x
                stage(2) = a
                """);
        Story.tell("Terms: the key behind has its life and time of reading", KEYED, """
                advance(3) = 3
                rotate(0, 0) = 2
                advance(9) = 12
                stage(2) = a
                advance(1) = 13
                stage(2) = r
                advance(4) = 17
                stage(2) = r
                advance(1) = 18
                stage(2) = x
                """);
        Story.tell("Terms: the key behind has the flags that the key has then", KEYED, """
                tighten(0, 13) = 13
                rotate(0, 0) = 2
                flags(2) = 13
                tighten(0, 1) = 1
                flags(2) = 13
                tighten(2, 4) = 4
                flags(0) = 1
                """);
        Story.tell("Terms: the key behind is a generated one", KEYED, "trust(0, 1, true) = false", "follow(1, 0) = 2",
                "rotate(1, 0) = 2", "encipher(1, 2, 0) = 0", "cipher(0) = " + Formulas.generated(2, 3, 1));
        Story.tell("Terms: the key behind has its strength", """
                addDevice() = 0
                generate(0, 2, 15, 5, 0) = 0
                rotate(0, 0) = 1
                generate(0, 2, 15, 5, 0) = 2
                generate(0, 3, 15, 5, 0) = 3
                generate(0, 1, 15, 5, 0) = 4
                wrap(0, 1, 2) = 0
                wrap(0, 1, 3) throws UnsupportedOperationException
                wrap(0, 4, 1) throws UnsupportedOperationException
                """);
        Story.tell("Terms: a rotated one can be rotated in turn", KEYED, "rotate(0, 0) = 2", "rotate(0, 2) = 3",
                "rotate(0, 3) = 4", "stage(2) = r", "stage(3) = r", "stage(4) = a");
        Story.tell("10: there is no such device, or key", KEYED, Story.each(Story.INDEX, "rotate(2, 0)", "rotate(-1, 0)",
                "rotate(0, 2)", "rotate(0, -1)", "rotate(2147483647, 0)", "rotate(0, 2147483647)",
                "rotate(-2147483648, 0)", "rotate(0, -2147483648)"));
        Story.tell("10: the device has no copy of it", KEYED, Story.each(Story.UNSUPPORTED, "rotate(1, 0)", "rotate(1, 1)"),
                "destroy(0, 0) = 0", Story.each(Story.UNSUPPORTED, "rotate(0, 0)"));
        Story.tell("10: it has one behind it", KEYED, "rotate(0, 0) = 2", Story.each(Story.UNSUPPORTED, "rotate(0, 0)"));
        Story.tell("10: it is not active", KEYED, "advance(2) = 2", Story.each(Story.UNSUPPORTED, "rotate(0, 1)"),
                "advance(8) = 10", Story.each(Story.UNSUPPORTED, "rotate(0, 0)"), "advance(5) = 15",
                Story.each(Story.UNSUPPORTED, "rotate(0, 0)"));
        Story.tell("10: the rule does not permit it", KEYED, FORBIDDEN, Story.each(Story.STATE, "rotate(0, 0)"),
                "logIn(0, 0) = -1", "rotate(0, 0) = 2");
        Story.tell("10: at most 24 keys", TWENTY_TWO, "rotate(0, 0) = 22", "rotate(0, 22) = 23",
                Story.each(Story.STATE, "rotate(0, 23)", "rotate(0, 1)"));
        Story.tell("10: no such device or key comes first", FULL, "setRule(g, 8, -1)",
                Story.each(Story.INDEX, "rotate(2, 0)", "rotate(0, 24)"));
        Story.tell("10: that it cannot be comes before the rule, and before 24 keys", TWENTY_TWO, "rotate(0, 0) = 22",
                "advance(2) = 2", "rotate(0, 22) = 23", Story.each(Story.UNSUPPORTED, "rotate(1, 23)", "rotate(0, 1)",
                "rotate(0, 0)"), "setRule(g, 8, -1)", Story.each(Story.UNSUPPORTED, "rotate(1, 23)", "rotate(0, 1)", "rotate(0, 22)"));
    }

    private static void promise11() {
        Story.tell("11: flags can be taken away, not added", KEYED, """
                tighten(0, 15) = 15
                tighten(0, 7) = 7
                flags(0) = 7
                tighten(0, 12) = 4
                tighten(0, 15) = 4
                flags(0) = 4
                tighten(0, 0) = 0
                tighten(0, 15) = 0
                flags(1) = 14
                tighten(1, 1) = 0
                acts() = 2
                """);
        for (int had = 0; had < 16; had++) {
            int flags = had;
            Story.tell("11: the flags that stay of " + had, "addDevice() = 0",
                    Story.lines(0, 15, key -> "generate(0, 1, " + flags + ", 1, 0) = " + key),
                    Story.lines(0, 15, key -> "tighten(" + key + ", " + key + ") = " + (flags & key)),
                    Story.lines(0, 15, key -> "flags(" + key + ") = " + (flags & key)));
        }
        Story.tell("11: flags of each of 24 keys", "addDevice() = 0",
                Story.lines(0, 23, key -> "generate(0, 1, 15, 1, 0) = " + key),
                Story.lines(0, 23, key -> "tighten(" + key + ", " + key % 16 + ") = " + key % 16),
                Story.lines(0, 23, key -> "flags(" + key + ") = " + key % 16));
        Story.tell("Terms: copies of a key have all its flags", KEYED, """
                trust(0, 1, true) = false
                follow(1, 0) = 2
                encipher(1, 0, 3) = 0
                tighten(0, 8) = 8
                read(1, 0) = 3
                encipher(0, 0, 3) throws UnsupportedOperationException
                encipher(1, 0, 3) throws UnsupportedOperationException
                tighten(0, 4) = 0
                read(0, 0) throws UnsupportedOperationException
                read(1, 0) throws UnsupportedOperationException
                """);
        Story.tell("11: flags of a key of which there is no copy, or that has expired", KEYED, "zeroise(0) = 2",
                "tighten(0, 3) = 3", "advance(500) = 500", "tighten(0, 1) = 1", "flags(0) = 1");
        Story.tell("11: there is no such key", KEYED, Story.each(Story.INDEX, "tighten(2, 0)", "tighten(-1, 0)",
                "tighten(2147483647, 0)", "tighten(-2147483648, 0)"));
        Story.tell("11: they are not from 0 to 15", KEYED, Story.each(Story.ARGUMENT, "tighten(0, 16)", "tighten(0, -1)",
                "tighten(0, 2147483647)", "tighten(0, -2147483648)"));
        Story.tell("11: no such key comes first", KEYED, Story.each(Story.INDEX, "tighten(2, 16)", "tighten(-1, -1)"));
    }

    private static void promises12To14() {
        Story.tell("12: there is no such key", KEYED,
                Story.each(Story.INDEX, "flags(2)", "flags(-1)", "flags(2147483647)", "flags(-2147483648)"));
        Story.tell("13: there is no such key", KEYED,
                Story.each(Story.INDEX, "stage(2)", "stage(-1)", "stage(2147483647)", "stage(-2147483648)"));
        Story.tell("14: there is no such device, or key", KEYED, Story.each(Story.INDEX, "has(2, 0)", "has(-1, 0)",
                "has(0, 2)", "has(0, -1)", "has(2147483647, 0)", "has(0, 2147483647)", "has(-2147483648, 0)",
                "has(0, -2147483648)", "has(2, 2)"));
        Story.tell("12 to 14: all of 24 keys", FULL, Story.lines(0, 23, key -> "stage(" + key + ") = a"),
                Story.lines(3, 21, key -> "flags(" + key + ") = 15"),
                Story.lines(0, 23, key -> "has(1, " + key + ") = " + (key >= 3 && key < 22)),
                Story.each(Story.INDEX, "flags(24)", "stage(24)", "has(0, 24)"));
        Story.tell("14: all of 4 devices", "addDevice()\naddDevice()\naddDevice()\naddDevice()", "generate(3, 1, 0, 1, 0) = 0",
                "generate(2, 1, 0, 1, 0) = 1", "has(0, 0) = false", "has(1, 0) = false", "has(2, 0) = false",
                "has(3, 0) = true", "has(2, 1) = true", "has(3, 1) = false", "has(4, 0) throws IndexOutOfBoundsException");
    }

    public static void main(String[] args) {
        promise8();
        secretsOfGenerated();
        secretsAtTheEnds();
        daysOfGenerated();
        promise9();
        deriveFull();
        deriveDestroyed();
        secretsOfDerived();
        daysOfDerived();
        promise10();
        promise11();
        promises12To14();
        Story.end("KeysTest");
    }
}
