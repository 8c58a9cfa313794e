/** Promises 18 to 22: checks of bits, and what is typed. */
final class ByteTests {
    private ByteTests() {
    }

    static void run() {
        Script.run("18 five", """
            five(0) = 8; five(21) = 12; five(2047) = 2; five(1) = 23; five(1024) = 13; five(-1)
            throws IllegalArgumentException; five(2048) throws IllegalArgumentException.
            """);
        for (int bits = 0; bits < 2048; bits++) {
            Check.is("18 five of " + bits, new Hubcascade().five(bits), checkOf(new int[] {bits}, 11, 5, 5));
        }
        type();
        wipe();
        sixteen();
        stuffed();
    }

    private static void type() {
        StringBuilder text = new StringBuilder();
        for (int i = 1; i <= 16; i++) {
            text.append("type(").append(i * 15).append(") = ").append(i).append("; ");
        }
        Script.run("19 type", "type(-1) throws IllegalArgumentException; type(256) throws IllegalArgumentException; "
            + text + "type(0) throws IllegalStateException; type(256) throws IllegalArgumentException; "
            + "wipe() = 16; type(255) = 1; type(0) = 2");
    }

    private static void wipe() {
        Script.run("20 wipe", """
            wipe() = 0; type(7) = 1; type(8) = 2; wipe() = 2; wipe() = 0; sixteen() = 0; type(1) = 1; stuffed() = 8.
            """);
    }

    private static void sixteen() {
        Script.run("21 sixteen", """
            sixteen() = 0; type(255) = 1; sixteen() = 255; type(255) = 2; sixteen() = 65535; wipe() = 2.
            """);
        Hubcascade bus = new Hubcascade();
        int[] bytes = {0, 1, 2, 3, 128, 85, 170, 255, 16, 99, 254, 7, 200, 31, 64, 33};
        for (int many = 1; many <= bytes.length; many++) {
            bus.type(bytes[many - 1]);
            int[] typed = java.util.Arrays.copyOf(bytes, many);
            Check.is("21 sixteen of " + many + " bytes", bus.sixteen(), checkOf(typed, 8, 16, 32773));
        }
    }

    private static void stuffed() {
        Script.run("22 stuffed", """
            stuffed() = 0; type(31) = 1; stuffed() = 8; wipe() = 1; type(63) = 1; stuffed() = 9; wipe() = 1;
            type(0) = 1; stuffed() = 8; type(255) = 2; stuffed() = 17; type(255) = 3; stuffed() = 26;
            wipe() = 3; type(252) = 1; stuffed() = 9; type(1) = 2; stuffed() = 17; wipe() = 2; type(224) = 1;
            stuffed() = 8; type(7) = 2; stuffed() = 17; wipe() = 2; type(248) = 1; type(1) = 2; stuffed() = 17;
            wipe() = 2; type(240) = 1; type(1) = 2; stuffed() = 16; type(126) = 3; stuffed() = 25; type(191) = 4;
            stuffed() = 34; wipe() = 4; type(255) = 1; type(255) = 2; type(255) = 3; stuffed() = 28.
            """);
    }

    // The bits as a row of booleans, and the check as one too: slower, and written in another way.
    private static int checkOf(int[] values, int bitsEach, int width, int turn) {
        boolean[] check = new boolean[width];
        java.util.Arrays.fill(check, true);
        for (int value : values) {
            for (int bit = 0; bit < bitsEach; bit++) {
                boolean isUnlike = check[width - 1] != (value >> bit) % 2 > 0;
                for (int place = width - 1; place >= 0; place--) {
                    boolean moved = place > 0 && check[place - 1];
                    check[place] = isUnlike && (turn >> place) % 2 == 1 ? !moved : moved;
                }
            }
        }
        int told = 0;
        for (int place = 0; place < width; place++) {
            told += check[place] ? 0 : 1 << place;
        }
        return told;
    }
}
