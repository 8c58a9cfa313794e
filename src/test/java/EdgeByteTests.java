/** Promises 18 to 22 and the terms on checks of bits: each sentence that names a bound or a refused call. */
final class EdgeByteTests {
    private EdgeByteTests() {
    }

    static void run() {
        elevenBits();
        sixteenTyped();
        typedIsTakenAway();
        stuffedBits();
    }

    private static void elevenBits() {
        Script.run("18 five: eleven bits", Edge.argument("five(%s)", 0, 2047) + "five(0) = 8; five(2047) = 2; "
            + "five(1024) = 13; five(1023) = 7; five(1) = 23");
    }

    private static void sixteenTyped() {
        Script.run("19 type: 0 to 255, at most 16", Edge.argument("type(%s)", 0, 255) + "type(0) = 1; type(255) = 2; "
            + "wipe() = 2; " + Edge.typed(15) + Edge.argument("type(%s)", 0, 255) + "type(255) = 16; "
            + Edge.badState("type(0)", "type(255)") + Edge.argument("type(%s)", 0, 255) + "wipe() = 16; wipe() = 0; "
            + "type(255) = 1; wipe() = 1; type(0) = 1");
    }

    private static void typedIsTakenAway() {
        Script.run("27 send and 33 load: nothing is typed then", Setup.device(1, 'h', 0, 8, -8)
            + "open(1, 2, 'b', 0) = 0; " + Edge.typed(16) + "send(0) = 1; wipe() = 0; sixteen() = 0; stuffed() = 0; "
            + Edge.typed(16) + "type(0) throws IllegalStateException; load(1, 1) = 16; wipe() = 0; " + Edge.typed(16)
            + "load(1, 1) = 32; sixteen() = 0; " + Edge.unsupported("send(0)") + Edge.typed(16)
            + Edge.badState("load(1, 1)") + "wipe() = 16");
    }

    private static void stuffedBits() {
        int[] ones = {0, 1, 3, 7, 15, 31, 63, 127, 255};
        for (int bits = 0; bits <= 128; bits++) {
            Hubcascade bus = new Hubcascade();
            for (int i = 0; i < 16; i++) {
                bus.type(ones[Math.max(0, Math.min(8, bits - 8 * i))]);
            }
            Check.is("22 stuffed: a row of " + bits + " ones at the start", bus.stuffed(), 128 + bits / 6);
        }
        for (int bits = 1; bits <= 128; bits++) {
            Hubcascade bus = new Hubcascade();
            for (int i = 15; i >= 0; i--) {
                bus.type(255 & ~ones[8 - Math.max(0, Math.min(8, bits - 8 * i))]);
            }
            Check.is("22 stuffed: a row of " + bits + " ones at the end", bus.stuffed(), 128 + bits / 6);
        }
        Script.run("22 stuffed: nothing, and a zero behind the last bit", "stuffed() = 0; type(252) = 1; "
            + "stuffed() = 9; wipe() = 1; type(248) = 1; stuffed() = 8; type(0) = 2; stuffed() = 16; type(126) = 3; "
            + "stuffed() = 25; type(192) = 4; type(15) = 5; stuffed() = 42; wipe() = 5; stuffed() = 0");
    }
}
