/** Promises 43 to 50, 53 and 54, and the terms on the sniffer: each sentence that names a bound or a refused call. */
final class EdgeSnifferTests {
    private EdgeSnifferTests() {
    }

    static void run() {
        endpointsOut();
        lastTaken();
        lastGot();
        whatIsCounted();
        blamed();
        checksumOfDevices();
        checksumOfBytes();
    }

    private static void endpointsOut() {
        for (String name : new String[] {"taken", "takenAt"}) {
            String last = name.equals("taken") ? ")" : ", 0)";
            String bad = name.equals("taken") ? ")" : ", -1)";
            Script.run("43 and 44: the device and the endpoint, " + name, Setup.zoo() + Edge.index(name + "(%s, 2"
                + last,
                    1, 7)
                + Edge.badIndex(name + "(0, 2" + last, name + "(0, 1" + last, name + "(1, 3" + last, name + "(7, 3"
                + bad,
                    name + "(8, 1" + bad)
                + Edge.index(name + "(1, %s" + last, 1, 3) + Edge.forNumbers(1, 7,
                    name + "(%s, 1" + last + " throws UnsupportedOperationException; " + name + "(%s, 1" + bad
                    + " throws UnsupportedOperationException; ")
                + (name.equals("taken") ? Edge.forNumbers(1, 7, "taken(%s, 2) = 0; ")
                    : Edge.forNumbers(1, 7, "takenAt(%s, 2, 0) throws NoSuchElementException; ")));
        }
    }

    private static void lastTaken() {
        StringBuilder text = new StringBuilder(Setup.device(1, 'h', 0, -8, 8) + "open(1, 1, 'b', 0) = 0; "
            + Edge.element("takenAt(1, 1, %s)", 0, -1) + Edge.noElement("takenAt(1, 1, 31)"));
        for (int many = 1; many <= 40; many++) {
            text.append("type(").append(many).append(") = 1; send(0) = 1; ring(0) = 1; frame() = 1; event() = 'd'; ")
                .append("taken(1, 1) = ").append(many).append("; takenAt(1, 1, 0) = ").append(many)
                .append("; takenAt(1, 1, ").append(Math.min(many, 32) - 1).append(") = ").append(Math.max(1, many - 31))
                .append("; ");
            if (many < 3 || many > 30) {
                text.append(Edge.element("takenAt(1, 1, %s)", 0, Math.min(many, 32) - 1));
            }
        }
        Script.run("44 takenAt: the last 32 of 1 to 40 bytes", text.toString());
    }

    private static void lastGot() {
        StringBuilder text = new StringBuilder(Setup.device(1, 'h', 0, -8, 8) + "open(1, 2, 'b', 0) = 0; "
            + Edge.element("gotAt(%s)", 0, -1) + Edge.noElement("gotAt(31)"));
        for (int many = 1; many <= 40; many++) {
            text.append("type(").append(many).append(") = 1; load(1, 2) = 1; ask(0, 1) = 1; ring(0) = 1; frame() = 1; ")
                .append("event() = 'd'; got() = ").append(many).append("; gotAt(0) = ").append(many).append("; gotAt(")
                .append(Math.min(many, 32) - 1).append(") = ").append(Math.max(1, many - 31)).append("; ");
            if (many < 3 || many > 30) {
                text.append(Edge.element("gotAt(%s)", 0, Math.min(many, 32) - 1));
            }
        }
        Script.run("47 gotAt: the last 32 of 1 to 40 bytes", text.toString());
    }

    private static void whatIsCounted() {
        Script.run("48 packets: t, d or h", Setup.device(1, 'h', 0, -8, 8)
            + Edge.forSigns("abcegisuxzTDH0 \u0000\uffff",
            "packets('%s') throws IllegalArgumentException; ") + "packets('t') = 5; packets('d') = 0; "
                + "packets('h') = 0; "
            + "open(1, 1, 'b', 0) = 0; " + Setup.send(0, 1) + "frame() = 1; packets('t') = 6; packets('d') = 1; "
            + "packets('h') = 1; frame() = 0; packets('t') = 6");
    }

    private static void blamed() {
        Script.run("49 blame: nothing is blamed at the endpoint 0 but being dead", Setup.device(1, 'h', 0, -8, 8)
            + "unplug(1) = 1; plug(1, 0, 0) = 1; fault(1, 0, 'b', 2) = 0; look() = 1; blame(1) = 0; unplug(1) = 1; "
            + "plug(1, 0, 0) = 1; fault(1, 0, 't', 2) = 0; look() = 1; blame(1) = 0; unplug(1) = 1; plug(1, 0, 0) = 1; "
            + "fault(1, 0, 't', 3) = 0; look() = 1; blame(1) = 1; stateOf(1) = 'x'");
        Script.run("49 blame: a lie out of the host or in a sound pipe is none", Setup.device(1, 'h', 0, -8, 8, 8)
            + "open(1, 1, 'b', 0) = 0; open(1, 2, 's', 1) = 1; open(1, 3, 'b', 0) = 2; fault(1, 1, 't', 1) = 0; "
            + "fault(1, 2, 't', 1) = 0; " + Setup.send(0, 1) + Setup.load(1, 2, 1, 1) + Setup.ask(1, 1)
            + "frame() = 2; "
            + "blame(1) = 0; fault(1, 3, 't', 2) = 0; " + Setup.ask(2, 1) + "frame() = 2; blame(1) = 0; "
            + Setup.load(1, 3, 1, 1) + "frame() = 2; blame(1) = 1; stateOf(1) = 'c'");
        StringBuilder many = new StringBuilder(Setup.device(1, 'h', 0) + "draw(1, 6) = 1; ");
        for (int i = 1; i <= 12; i++) {
            many.append("frame() = 0; frame() = 0; blame(1) = ").append(i)
                .append("; unplug(1) = 1; plug(1, 0, 0) = 1; look() = 1; ");
        }
        Script.run("49 blame: once for each time", many + Edge.index("blame(%s)", 0, 1));
    }

    private static void checksumOfDevices() {
        long host = 31 * 7 + 'c';
        Script.run("53 checksum: the host's hub alone, then more", "checksum() = " + host + "; "
            + "make('h', 0, 1, false, 0) = 1; "
            + "checksum() = " + (31 * host + 'u') + "; plug(1, 0, 0) = 1; checksum() = " + (31 * host + 'n')
            + "; look() = 1; checksum() = " + (31 * host + 'c' + 1) + "; sleep(1) = 1; checksum() = "
            + (31 * host + 'z' + 1) + "; wake(1) = 1; draw(1, 9) = 1; frame() = 0; checksum() = "
            + (31 * host + 's' + 1 + 100) + "; unplug(1) = 1; checksum() = " + (31 * host + 'u' + 100));
        Script.run("53 checksum: each state", Setup.zoo() + "checksum() = " + sumOfZoo());
        long sum = host;
        for (int i = 1; i <= 15; i++) {
            sum = 31 * sum + 'u';
        }
        Script.run("53 checksum: 16 devices", Edge.forNumbers(1, 15, "make('l', 0, 1, false, 0) = %s; ")
            + "checksum() = " + sum);
    }

    private static long sumOfZoo() {
        long sum = 7;
        int[] parts = {'c', 'c' + 1, 'p' + 4, 'n', 'x' + 100, 's' + 2 + 100, 'z' + 3, 'u'};
        for (int part : parts) {
            sum = 31 * sum + part;
        }
        return sum;
    }

    private static void checksumOfBytes() {
        StringBuilder text = new StringBuilder(Setup.device(1, 'h', 0, 8) + "open(1, 1, 'b', 0) = 0; ");
        for (int many = 1; many <= 40; many++) {
            text.append("type(").append(many * 6).append(") = 1; load(1, 1) = 1; ask(0, 1) = 1; ring(0) = 1; ")
                .append("frame() = 1; event() = 'd'; checksum() = ");
            long sum = 31 * (31 * 7 + 'c') + 'c' + 1;
            for (int i = Math.max(1, many - 31); i <= many; i++) {
                sum = 31 * sum + i * 6;
            }
            text.append(sum).append("; ");
        }
        Script.run("53 checksum: the last 32 of 1 to 40 bytes, the oldest first", text.toString());
    }
}
