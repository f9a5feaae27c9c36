/** Promises 25 to 28, and what the terms say of messages. */
public final class MessagesTest {
    /** At device 0 key 0 (all flags, 5 + 5 days, secret 5), 1 (enciphers, secret 25), 2 (deciphers); a message of 0 and 1. */
    private static final String WRITTEN = """
            addDevice() = 0
            addDevice() = 1
            trust(0, 1, true) = false
            generate(0, 1, 15, 5, 5) = 0
            generate(0, 1, 4, 50, 5) = 1
            generate(0, 1, 8, 50, 5) = 2
            encipher(0, 0, 250) = 0
            encipher(0, 1, 100) = 1
            """;

    private static final String FULL = WRITTEN
            + Story.lines(2, 59, message -> "encipher(0, 0, " + message + ") = " + message);

    private static void promise25() {
        Story.tell("25: messages are numbered from 0", WRITTEN, "encipher(0, 0, 0) = 2", "encipher(0, 0, 0) = 3",
                "encipher(0, 1, 0) = 4", "cipher(2) = 15", "cipher(3) = 20", "cipher(4) = 125");
        Story.tell("25: it is no act", WRITTEN, "acts() = 3", "encipher(0, 0, 0) = 2", "read(0, 2) = 0", "acts() = 3");
        Story.tell("25: at most 60 messages", FULL, Story.each(Story.STATE, "encipher(0, 0, 1)", "encipher(0, 1, 250)"),
                "cipher(60) throws IndexOutOfBoundsException", "read(0, 59) = 59");
        Story.tell("25: the value is 0 to 250", WRITTEN, "encipher(0, 0, 0) = 2", "encipher(0, 0, 250) = 3", "read(0, 2) = 0",
                "read(0, 3) = 250", Story.each(Story.ARGUMENT, "encipher(0, 0, 251)", "encipher(0, 0, -1)",
                        "encipher(0, 0, 2147483647)", "encipher(0, 0, -2147483648)"));
        for (int flags = 0; flags < 16; flags++) {
            boolean may = (flags & 4) != 0;
            Story.tell("Terms: the key may encipher, by its flags " + flags, "addDevice() = 0",
                    "generate(0, 1, " + flags + ", 1, 0) = 0",
                    may ? "encipher(0, 0, 1) = 0" : "encipher(0, 0, 1) throws UnsupportedOperationException");
        }
        Story.tell("Terms: a device enciphers by a copy of an active key", WRITTEN, """
                advance(4) = 4
                encipher(0, 0, 1) = 2
                advance(1) = 5
                stage(0) = r
                encipher(0, 0, 1) throws UnsupportedOperationException
                encipher(0, 1, 1) = 3
                advance(5) = 10
                stage(0) = x
                encipher(0, 0, 1) throws UnsupportedOperationException
                """);
        Story.tell("Terms: a rotated key enciphers no more", WRITTEN, "rotate(0, 0) = 3",
                "encipher(0, 0, 1) throws UnsupportedOperationException", "encipher(0, 3, 1) = 2");
    }

    private static void encipherRefused() {
        Story.tell("25: there is no such device, or key", WRITTEN, Story.each(Story.INDEX, "encipher(2, 0, 1)",
                "encipher(-1, 0, 1)", "encipher(0, 3, 1)", "encipher(0, -1, 1)", "encipher(2147483647, 0, 1)",
                "encipher(0, 2147483647, 1)", "encipher(-2147483648, 0, 1)", "encipher(0, -2147483648, 1)"));
        Story.tell("25: the device has no copy", WRITTEN, Story.each(Story.UNSUPPORTED, "encipher(1, 0, 1)"), "follow(1, 0) = 3",
                "encipher(1, 0, 1) = 2", "destroy(1, 0) = 1", Story.each(Story.UNSUPPORTED, "encipher(1, 0, 1)"));
        Story.tell("25: the key cannot do so now", WRITTEN, Story.each(Story.UNSUPPORTED, "encipher(0, 2, 1)"),
                "tighten(0, 11) = 11", Story.each(Story.UNSUPPORTED, "encipher(0, 0, 1)"), "advance(500) = 500",
                Story.each(Story.UNSUPPORTED, "encipher(0, 1, 1)"));
        Story.tell("25: the exceptions in their order", FULL,
                Story.each(Story.INDEX, "encipher(2, 0, 251)", "encipher(0, 3, -1)", "encipher(2, 3, 1)"),
                Story.each(Story.ARGUMENT, "encipher(1, 0, 251)", "encipher(0, 2, -1)", "encipher(0, 0, 251)"),
                Story.each(Story.UNSUPPORTED, "encipher(1, 0, 1)", "encipher(0, 2, 1)"), "advance(5) = 5",
                Story.each(Story.UNSUPPORTED, "encipher(0, 0, 1)"), Story.each(Story.STATE, "encipher(0, 1, 1)"));
    }

    private static void promise26() {
        Story.tell("26: the value plus the secret times 1 more than the number", FULL, "cipher(0) = 4", "cipher(1) = 150",
                Story.lines(2, 59, message -> "cipher(" + message + ") = " + Formulas.cipher(message, 5, message)));
        Story.tell("26: it goes round to 0 at 251", WRITTEN, "encipher(0, 0, 235) = 2", "cipher(2) = 250",
                "encipher(0, 0, 231) = 3", "cipher(3) = 0", "encipher(0, 0, 227) = 4", "cipher(4) = 1", "read(0, 2) = 235",
                "read(0, 3) = 231", "read(0, 4) = 227");
        Story.tell("26: the greatest secret and the last message", "addDevice() = 0",
                Story.lines(0, 4, key -> "generate(0, 1, 0, 1, 0)"), "generate(0, 2, 12, 1, 0) = 5",
                Story.lines(0, 59, message -> "encipher(0, 5, 250) = " + message),
                Story.lines(0, 59, message -> "cipher(" + message + ") = " + (249 - message)),
                Story.lines(0, 59, message -> "read(0, " + message + ") = 250"));
        Story.tell("26: there is no such message", WRITTEN, Story.each(Story.INDEX, "cipher(2)", "cipher(-1)",
                "cipher(2147483647)", "cipher(-2147483648)"));
        Story.tell("26: a message stays when its key is gone", WRITTEN, "zeroise(0) = 3", "advance(500) = 500",
                "tighten(0, 0) = 0", "cipher(0) = 4", "cipher(1) = 150");
    }

    private static void promise27() {
        Story.tell("27: the value, at any device that has a copy", WRITTEN, "read(0, 0) = 250", "follow(1, 0) = 3",
                "read(1, 0) = 250", "destroy(0, 0) = 1", "read(1, 0) = 250", "read(0, 0) throws UnsupportedOperationException");
        Story.tell("27: all values", WRITTEN, Story.lines(2, 59, message -> "encipher(0, 0, " + message * 4 + ") = " + message),
                Story.lines(2, 59, message -> "read(0, " + message + ") = " + message * 4));
        for (int flags = 0; flags < 16; flags++) {
            boolean may = (flags & 8) != 0;
            Story.tell("Terms: the key may decipher, by its flags " + flags, "addDevice() = 0",
                    "generate(0, 1, 15, 1, 0) = 0", "encipher(0, 0, 77) = 0", "tighten(0, " + flags + ") = " + flags,
                    may ? "read(0, 0) = 77" : "read(0, 0) throws UnsupportedOperationException");
        }
        Story.tell("Terms: it reads by a key that has not expired", WRITTEN, """
                advance(5) = 5
                read(0, 0) = 250
                advance(4) = 9
                read(0, 0) = 250
                advance(1) = 10
                read(0, 0) throws UnsupportedOperationException
                """);
        Story.tell("Terms: it reads by a rotated key until its time of reading has gone", WRITTEN, "rotate(0, 0) = 3",
                "advance(4) = 4", "read(0, 0) = 250", "advance(1) = 5", "read(0, 0) throws UnsupportedOperationException");
        Story.tell("27: there is no such device, or message", WRITTEN, Story.each(Story.INDEX, "read(2, 0)", "read(-1, 0)",
                "read(0, 2)", "read(0, -1)", "read(2147483647, 0)", "read(0, 2147483647)", "read(-2147483648, 0)",
                "read(0, -2147483648)"));
        Story.tell("27: the device has no copy of its key, or this cannot do so now", WRITTEN,
                Story.each(Story.UNSUPPORTED, "read(1, 0)", "read(1, 1)", "read(0, 1)"));
        Story.tell("27: no such device or message comes first", WRITTEN,
                Story.each(Story.INDEX, "read(2, 1)", "read(1, 2)", "read(2, 2)"));
    }

    private static final String ROTATED = WRITTEN + "rotate(0, 0) = 3\n";

    private static void promise28() {
        Story.tell("28: without a rotation nothing is done, and nothing thrown", WRITTEN, """
                renew(0, 0) = 0
                renew(1, 0) = 0
                renew(0, 1) = 1
                cipher(0) = 4
                cipher(1) = 150
                advance(500) = 500
                renew(0, 0) = 0
                zeroise(0) = 3
                renew(0, 1) = 1
                cipher(0) = 4
                """);
        Story.tell("28: by the key behind, under the same number", ROTATED, "renew(0, 0) = 3",
                "cipher(0) = " + Formulas.cipher(250, Formulas.generated(3, 1, 0), 0), "cipher(1) = 150", "read(0, 0) = 250",
                "cipher(2) throws IndexOutOfBoundsException", "renew(0, 0) = 3", "read(0, 0) = 250", "acts() = 4");
        Story.tell("28: a second message by the key behind", ROTATED, "encipher(0, 3, 8) = 2", "rotate(0, 3) = 4",
                "renew(0, 2) = 4", "cipher(2) = " + Formulas.cipher(8, Formulas.generated(4, 1, 0), 2), "cipher(0) = 4",
                "read(0, 2) = 8", "renew(0, 0) = 4", "read(0, 0) = 250");
        Story.tell("28: over any number of rotations", WRITTEN, "rotate(0, 0) = 3",
                Story.lines(3, 22, key -> "rotate(0, " + key + ") = " + (key + 1)), "renew(0, 0) = 23",
                "cipher(0) = " + Formulas.cipher(250, Formulas.generated(23, 1, 0), 0), "read(0, 0) = 250", "isSound() = true");
        Story.tell("28: only copies of the message's key and of the last one are needed", ROTATED, "rotate(0, 3) = 4",
                "destroy(0, 3) = 0", "tighten(3, 0) = 0", "renew(0, 0) = 4", "destroy(0, 0) = 0", "read(0, 0) = 250");
        Story.tell("28: with 60 messages", FULL, "rotate(0, 0) = 3", "renew(0, 59) = 3", "read(0, 59) = 59", "renew(0, 0) = 3",
                "read(0, 0) = 250", "renew(0, 1) = 1");
        Story.tell("28: each of 60 messages", FULL, "rotate(0, 0) = 3", Story.lines(0, 59, message -> message == 1 ? ""
                : "renew(0, " + message + ") = 3\ncipher(" + message + ") = "
                        + Formulas.cipher(message == 0 ? 250 : message, Formulas.generated(3, 1, 0), message)),
                "isSound() = true");
        Story.tell("28: at another device", ROTATED, "follow(1, 0) = 4", "zeroise(0) = 4", "renew(1, 0) = 3", "read(1, 0) = 250");
        Story.tell("28: the last days on which it can be", ROTATED, "advance(4) = 4", "stage(0) = r", "stage(3) = a",
                "renew(0, 0) = 3", "read(0, 0) = 250");
        Story.tell("28: a derived key has none behind it", WRITTEN, "derive(0, 0, 0, 15) = 3", "renew(0, 0) = 0", "cipher(0) = 4",
                "encipher(0, 3, 9) = 2", "rotate(0, 0) = 4", "renew(0, 2) = 3", "renew(0, 0) = 4");
    }

    private static void renewRefused() {
        Story.tell("28: there is no such device, or message", ROTATED, Story.each(Story.INDEX, "renew(2, 0)", "renew(-1, 0)",
                "renew(0, 2)", "renew(0, -1)", "renew(2147483647, 0)", "renew(0, 2147483647)", "renew(-2147483648, 0)",
                "renew(0, -2147483648)", "renew(2, 1)", "renew(1, 2)"));
        Story.tell("28: no copy of the message's key", ROTATED, "destroy(0, 0) = 0", Story.each(Story.UNSUPPORTED, "renew(0, 0)"));
        Story.tell("28: no copy of the last key", ROTATED, "destroy(0, 3) = 0", Story.each(Story.UNSUPPORTED, "renew(0, 0)"),
                "read(0, 0) = 250");
        Story.tell("28: no copies at the device", ROTATED, Story.each(Story.UNSUPPORTED, "renew(1, 0)"));
        Story.tell("28: the message's key may not decipher", ROTATED, "tighten(0, 7) = 7", Story.each(Story.UNSUPPORTED, "renew(0, 0)"));
        Story.tell("28: the message's key has expired", ROTATED, "rotate(0, 3) = 4", "advance(4) = 4", "rotate(0, 4) = 5",
                "advance(1) = 5", "stage(0) = x", "stage(5) = a", Story.each(Story.UNSUPPORTED, "renew(0, 0)"));
        Story.tell("28: the last key may not encipher", ROTATED, "tighten(3, 11) = 11", Story.each(Story.UNSUPPORTED, "renew(0, 0)"),
                "read(0, 0) = 250");
        Story.tell("28: the last key can only read", "addDevice() = 0", "generate(0, 1, 12, 1, 9) = 0", "encipher(0, 0, 7) = 0",
                "rotate(0, 0) = 1", "advance(1) = 1", "stage(1) = r", Story.each(Story.UNSUPPORTED, "renew(0, 0)"),
                "read(0, 0) = 7");
        Story.tell("28: a copy of one behind it that is not the last", ROTATED, "rotate(0, 3) = 4", "destroy(0, 4) = 0",
                Story.each(Story.UNSUPPORTED, "renew(0, 0)"));
        Story.tell("28: the flags of the last key to decipher are not asked", ROTATED, "tighten(3, 4) = 4", "renew(0, 0) = 3",
                "read(0, 0) throws UnsupportedOperationException");
        Story.tell("28: the flags of the message's key to encipher are not asked", ROTATED, "tighten(0, 8) = 8", "renew(0, 0) = 3",
                "read(0, 0) = 250");
    }

    public static void main(String[] args) {
        promise25();
        encipherRefused();
        promise26();
        promise27();
        promise28();
        renewRefused();
        Story.end("MessagesTest");
    }
}
