/** Promise 35 and the terms on transfers and faults: each sentence that names a bound, and each fault everywhere. */
final class EdgeTransferTests {
    private static final String PAIR = Setup.device(1, 'h', 0, 4, -4)
        + "open(1, 1, 'b', 0) = 0; open(1, 2, 'b', 0) = 1; ";

    private EdgeTransferTests() {
    }

    static void run() {
        packetsOut();
        packetsIn();
        packetsSentAgain();
        failuresOut();
        failuresIn();
        delays();
        rowsOfFailures();
        rowOverCancel();
        faultsAreUsedUp();
        soundNeverHalts();
        anyBytes();
        eachFaultOut();
        eachFaultIn();
        eachFaultWhereNothingWaits();
        eachFaultInSound();
        haltedDoesNothing();
    }

    private static String bulk(int in, int out) {
        return Setup.device(1, 'h', 0, in, -out) + "open(1, 1, 'b', 0) = 0; open(1, 2, 'b', 0) = 1; ";
    }

    private static void packetsOut() {
        for (int greatest = 1; greatest <= 8; greatest++) {
            for (int bytes = 1; bytes <= 16; bytes++) {
                int packets = (bytes + greatest - 1) / greatest;
                Script.run("a transfer out of " + bytes + " bytes by " + greatest, bulk(1, greatest) + Edge.typed(bytes)
                    + "send(1) = 1; ring(1) = 1; frame() = " + packets + "; left(-1) = " + (100 - 2 * packets - bytes)
                    + "; taken(1, 2) = " + bytes + "; takenAt(1, 2, " + (bytes - 1) + ") = 1; events() = 1; "
                    + Setup.event('d', 1, bytes));
            }
        }
    }

    private static void packetsIn() {
        for (int greatest = 1; greatest <= 8; greatest++) {
            for (int waiting = 0; waiting <= 16; waiting++) {
                for (int asked = 1; asked <= 16; asked++) {
                    String start = bulk(greatest, 1) + Edge.typed(waiting) + "load(1, 1) = " + waiting + "; "
                        + Setup.ask(0, asked);
                    Script.run("a transfer in of " + asked + " bytes by " + greatest + ", " + waiting + " wait", start
                        + endOfIn(greatest, waiting, asked));
                }
            }
        }
    }

    // Over by 'd' if enough wait, by 'h' if the last packet is a short one, else 'not yet' behind the whole packets.
    private static String endOfIn(int greatest, int waiting, int asked) {
        int done = Math.min(waiting, asked);
        int packets = (done + greatest - 1) / greatest;
        boolean isOver = waiting >= asked || waiting % greatest > 0;
        int used = 2 * packets + done + (isOver ? 0 : 3);
        return "frame() = " + (isOver ? packets : packets + 1) + "; left(-1) = " + (100 - used) + "; got() = " + done
            + "; waiting(1, 1) = " + (waiting - done) + "; "
            + (isOver ? Setup.event(waiting >= asked ? 'd' : 'h', 0, done) : "") + "events() = 0; ";
    }

    private static void packetsSentAgain() {
        for (int bytes = 1; bytes <= 4; bytes++) {
            for (int asked = 1; asked <= 6; asked++) {
                String end = bytes >= asked ? "frame() = 1; " + Setup.event('d', 0, bytes)
                    : bytes < 4 ? "frame() = 1; " + Setup.event('h', 0, bytes) : "frame() = 2; ";
                Script.run("a packet of " + bytes + " sent again, asked for " + asked, bulk(4, 4) + Edge.typed(bytes)
                    + "load(1, 1) = " + bytes + "; fault(1, 1, 'd', 1) = 0; " + Setup.ask(0, 4) + "frame() = 1; "
                    + "cancel(0) = 0; event() = 'x'; got() = 0; waiting(1, 1) = " + bytes + "; " + Setup.ask(0, asked)
                    + end + "events() = 0; got() = " + bytes + "; waiting(1, 1) = 0");
                Script.run("a packet of " + bytes + " forgotten, asked for " + asked, bulk(4, 4) + Edge.typed(bytes)
                    + "load(1, 1) = " + bytes + "; fault(1, 1, 'd', 1) = 0; " + Setup.ask(0, 4) + "frame() = 1; "
                    + "cancel(0) = 0; event() = 'x'; clear(0) = 0; waiting(1, 1) = " + bytes + "; "
                    + Setup.ask(0, asked) + endOfIn(4, bytes, asked));
            }
        }
        Script.run("a packet sent again pays for its own bytes", bulk(8, 8) + Setup.load(1, 1, 2, 1, 2)
            + "fault(1, 1, 'd', 1) = 0; " + Setup.ask(0, 8) + "frame() = 1; left(-1) = 96; "
            + Setup.load(1, 1, 8, 3, 4, 5, 6, 7, 8) + "frame() = 1; left(-1) = 96; got() = 2; waiting(1, 1) = 6; "
            + Setup.event('h', 0, 2));
    }

    private static void failuresOut() {
        for (char kind : new char[] {'c', 'd', 'a', 'b', 't'}) {
            for (int many = 1; many <= 9; many++) {
                String start = PAIR + "fault(1, 2, '" + kind + "', " + many + ") = 0; " + Setup.send(1, 7, 8)
                    + Edge.forNumbers(1, Math.min(many, 2), "frame() = 1; events() = 0; isHalted(1) = false; ");
                Script.run(many + " failures out by " + kind, start + (many < 3
                    ? "frame() = 1; isHalted(1) = false; " + Setup.event('d', 1, 2) + "taken(1, 2) = 2; "
                    : "frame() = 1; isHalted(1) = true; causeOf(1) = '" + kind + "'; " + Setup.event('e', 1, 0)
                        + "frame() = 0; fault(1, 2, 'c', 1) = " + (many - 3) + "; taken(1, 2) = "
                        + (kind == 'd' || kind == 'a' ? 2 : 0)));
            }
        }
    }

    private static void failuresIn() {
        for (char kind : new char[] {'c', 'd'}) {
            for (int many = 1; many <= 9; many++) {
                String start = PAIR + "fault(1, 1, '" + kind + "', " + many + ") = 0; " + Setup.load(1, 1, 2, 7, 8)
                    + Setup.ask(0, 2) + Edge.forNumbers(1, Math.min(many, 2),
                        "frame() = 1; events() = 0; isHalted(0) = false; got() = 0; ");
                Script.run(many + " failures in by " + kind, start + (many < 3
                    ? "frame() = 1; isHalted(0) = false; " + Setup.event('d', 0, 2) + "got() = 2; waiting(1, 1) = 0"
                    : "frame() = 1; isHalted(0) = true; causeOf(0) = '" + kind + "'; " + Setup.event('e', 0, 0)
                        + "frame() = 0; fault(1, 1, 'c', 1) = " + (many - 3) + "; got() = 0; waiting(1, 1) = 2"));
            }
        }
        Script.run("3 failures in by c, where no byte waits", PAIR + "fault(1, 1, 'c', 3) = 0; " + Setup.ask(0, 2)
            + "frame() = 1; frame() = 1; isHalted(0) = false; frame() = 1; isHalted(0) = true; causeOf(0) = 'c'; "
            + Setup.event('e', 0, 0));
        Script.run("3 failures in by a, and bytes are still asked for", PAIR + "fault(1, 1, 'a', 3) = 0; "
            + Setup.load(1, 1, 4, 1, 2, 3, 4) + Setup.ask(0, 5) + "frame() = 1; got() = 4; frame() = 1; got() = 4; "
            + "isHalted(0) = false; events() = 0; frame() = 1; isHalted(0) = true; causeOf(0) = 'a'; "
            + Setup.event('e', 0, 4) + "waiting(1, 1) = 4");
    }

    private static void delays() {
        for (int many = 1; many <= 9; many++) {
            Script.run("'not yet' " + many + " times is no failure", PAIR + "fault(1, 2, 'n', " + many + ") = 0; "
                + "fault(1, 1, 'n', " + many + ") = 0; " + Setup.load(1, 1, 1, 3) + Setup.ask(0, 1) + Setup.send(1, 7)
                + Edge.forNumbers(1, many, "frame() = 2; isHalted(0) = false; isHalted(1) = false; events() = 0; ")
                + "frame() = 2; " + Setup.event('d', 0, 1) + Setup.event('d', 1, 1));
            Script.run("'not yet' " + many + " times ends no row of failures", PAIR + "fault(1, 2, 'c', 2) = 0; "
                + Setup.send(1, 7) + "frame() = 1; frame() = 1; fault(1, 2, 'n', " + many + ") = 0; "
                + Edge.forNumbers(1, many, "frame() = 1; ") + "isHalted(1) = false; fault(1, 2, 'd', 1) = 0; "
                + "frame() = 1; isHalted(1) = true; causeOf(1) = 'd'; " + Setup.event('e', 1, 0));
            Script.run("no byte waits " + many + " times, which ends no row of failures", PAIR
                + "fault(1, 1, 'c', 2) = 0; " + Setup.ask(0, 1) + "frame() = 1; frame() = 1; "
                + Edge.forNumbers(1, many, "frame() = 1; ") + "isHalted(0) = false; fault(1, 1, 'c', 1) = 0; "
                + "frame() = 1; isHalted(0) = true; " + Setup.event('e', 0, 0));
        }
    }

    private static void rowsOfFailures() {
        Script.run("two failures, a packet, and two again", PAIR + "fault(1, 2, 'c', 2) = 0; "
            + Setup.send(1, 1, 2, 3, 4, 5) + "frame() = 1; frame() = 1; frame() = 2; event() = 'd'; "
            + "fault(1, 2, 'd', 2) = 0; " + Setup.send(1, 6) + "frame() = 1; frame() = 1; isHalted(1) = false; "
            + "frame() = 1; event() = 'd'; fault(1, 2, 'c', 3) = 0; " + Setup.send(1, 7) + "frame() = 1; frame() = 1; "
            + "isHalted(1) = false; frame() = 1; isHalted(1) = true; event() = 'e'");
        Script.run("two failures, one that was taken before and is acknowledged, and two again", PAIR
            + "fault(1, 1, 'a', 2) = 0; " + Setup.load(1, 1, 2, 1, 2) + Setup.ask(0, 2) + "frame() = 1; event() = 'd'; "
            + Setup.ask(0, 3) + "frame() = 1; frame() = 2; got() = 2; fault(1, 1, 'c', 2) = 0; frame() = 1; "
            + "frame() = 1; "
            + "isHalted(0) = false; fault(1, 1, 'c', 1) = 0; frame() = 1; isHalted(0) = true; "
            + Setup.event('e', 0, 0));
        Script.run("three by unlike faults are a row, too", PAIR + "fault(1, 2, 't', 1) = 0; " + Setup.send(1, 7)
            + "frame() = 1; fault(1, 2, 'b', 1) = 0; frame() = 1; fault(1, 2, 'a', 1) = 0; isHalted(1) = false; "
            + "frame() = 1; isHalted(1) = true; causeOf(1) = 'a'; taken(1, 2) = 1");
        Script.run("each pipe has a row of its own", PAIR + "fault(1, 1, 'c', 2) = 0; fault(1, 2, 'c', 2) = 0; "
            + Setup.ask(0, 1) + Setup.send(1, 1) + "frame() = 2; frame() = 2; isHalted(0) = false; "
            + "isHalted(1) = false; "
            + "fault(1, 2, 'c', 1) = 0; frame() = 2; isHalted(0) = false; isHalted(1) = true");
    }

    private static void rowOverCancel() {
        Script.run("a row of failures is the pipe's, not the transfer's", PAIR + "fault(1, 2, 'c', 3) = 0; "
            + Setup.send(1, 7) + "frame() = 1; frame() = 1; cancel(1) = 0; event() = 'x'; " + Setup.send(1, 8)
            + "frame() = 1; isHalted(1) = true; " + Setup.event('e', 1, 0));
        Script.run("a row of failures ends as the pipe is cleared", PAIR + "fault(1, 2, 'c', 4) = 0; "
            + Setup.send(1, 7) + "frame() = 1; frame() = 1; clear(1) = 1; frame() = 1; frame() = 1; "
            + "isHalted(1) = false; frame() = 1; " + Setup.event('d', 1, 1));
    }

    private static void faultsAreUsedUp() {
        for (int many = 1; many <= 9; many++) {
            Script.run("a fault for " + many + " transactions to come", PAIR + "fault(1, 2, 'n', " + many + ") = 0; "
                + Setup.send(1, 7) + Edge.forNumbers(1, many - 1, "frame() = 1; ") + "fault(1, 2, 'n', 1) = 1; "
                + "frame() = 1; fault(1, 2, 'n', " + many + ") = 0; frame() = 1; fault(1, 2, 'n', 9) = " + (many - 1)
                + "; fault(1, 1, 'c', 1) = 0; fault(1, 0, 'c', 1) = 0");
        }
        Script.run("a fault is used by its own endpoint's transactions alone", PAIR + "fault(1, 1, 'c', 5) = 0; "
            + "fault(1, 0, 'c', 5) = 0; " + Setup.send(1, 7, 8, 9, 10, 11) + "frame() = 2; event() = 'd'; frame() = 0; "
            + "fault(1, 1, 'c', 1) = 5; fault(1, 0, 'c', 1) = 5");
    }

    private static void soundNeverHalts() {
        String both = Setup.device(1, 'h', 0, 1, -1) + "open(1, 1, 's', 1) = 0; open(1, 2, 's', 1) = 1; ";
        for (char kind : new char[] {'c', 'd', 'a', 'n', 's', 'b', 't'}) {
            Script.run("nine faults in a row in a sound pipe out, " + kind, both + "fault(1, 2, '" + kind
                + "', 9) = 0; "
                + Edge.typed(16) + "send(1) = 1; ring(1) = 1; " + Edge.forNumbers(1, 9, "frame() = 1; "
                + "taken(1, 2) = 0; ")
                + Edge.forNumbers(1, 7, "events() = 0; frame() = 1; taken(1, 2) = %s; ") + "isHalted(1) = false; "
                + "packets('h') = 0; blame(1) = 0; stateOf(1) = 'c'; " + Setup.event('l', 1, 16)
                + "causeOf(1) throws UnsupportedOperationException");
            if (kind != 'b') {
                Script.run("nine faults in a row in a sound pipe in, " + kind, both + "fault(1, 1, '" + kind
                    + "', 9) = 0; " + Edge.typed(16) + "load(1, 1) = 16; " + Setup.ask(0, 16)
                    + Edge.forNumbers(1, 9, "frame() = 1; got() = 0; ") + "waiting(1, 1) = 7; "
                    + Edge.forNumbers(1, 7, "events() = 0; frame() = 1; got() = %s; ") + "isHalted(0) = false; "
                    + "packets('h') = 0; blame(1) = 0; stateOf(1) = 'c'; " + Setup.event('l', 0, 16));
            }
        }
        Script.run("silence in a sound pipe is 'not yet', however often", both + Setup.ask(0, 2)
            + Edge.forNumbers(1, 9, "frame() = 1; left(-1) = 97; events() = 0; isHalted(0) = false; ")
            + "packets('d') = 0; packets('h') = 0; " + Setup.load(1, 1, 2, 3, 4) + "frame() = 1; frame() = 1; "
            + "got() = 2; "
            + Setup.event('d', 0, 2));
        Script.run("a transfer that lost nothing, behind one that did", both + "fault(1, 2, 'c', 1) = 0; "
            + Setup.send(1, 1) + "type(2) = 1; send(1) = 2; ring(1) = 1; frame() = 1; frame() = 1; "
            + Setup.event('l', 1, 1) + Setup.event('d', 1, 1) + "taken(1, 2) = 1; takenAt(1, 2, 0) = 2");
    }

    private static void anyBytes() {
        Script.run("bytes of 0 to 255 into the host", bulk(8, 8) + Setup.load(1, 1, 8, 0, 255, 1, 254, 127, 128, 64, 2)
            + Setup.ask(0, 8) + "frame() = 1; gotAt(0) = 2; gotAt(1) = 64; gotAt(2) = 128; gotAt(3) = 127; "
            + "gotAt(4) = 254; gotAt(5) = 1; gotAt(6) = 255; gotAt(7) = 0");
        StringBuilder text = new StringBuilder(bulk(8, 8));
        for (int value = 0; value <= 255; value++) {
            if (value % 16 == 15) {
                text.append("type(").append(value).append(") = 16; send(1) = 1; ring(1) = 1; frame() = 2; "
                    + "event() = 'd'; ")
                    .append("takenAt(1, 2, 15) = ").append(value - 15).append("; takenAt(1, 2, 0) = ").append(value)
                    .append("; ");
            } else {
                text.append("type(").append(value).append(") = ").append(value % 16 + 1).append("; ");
            }
        }
        Script.run("bytes of 0 to 255 out of the host", text + "taken(1, 2) = 256");
    }

    // A line: the fault, data packets, handshakes, bytes that came, bytes that wait then, blame, and the event or '-'.
    private static void check(String title, String setup, String counted, String[] lines) {
        for (String line : lines) {
            String[] part = line.split(" ");
            String fault = part[0].equals("-") ? "" : "fault(1, 1, '" + part[0] + "', 1) = 0; ";
            Script.run(title + ", fault " + part[0], setup + fault + "frame() = 1; packets('t') = 6; packets('d') = "
                + part[1] + "; packets('h') = " + part[2] + "; " + counted.replace("%a", part[3]).replace("%b", part[4])
                + "blame(1) = " + part[5] + "; stateOf(1) = '"
                + (part[0].equals("b") && part[5].equals("1") ? 's' : 'c')
                + "'; events() = " + (part[6].equals("-") ? 0 : 1) + "; "
                + (part[6].equals("-") ? "event() throws NoSuchElementException" : "event() = '" + part[6] + "'"));
        }
    }

    private static void eachFaultOut() {
        for (char kind : new char[] {'b', 'i'}) {
            String setup = Setup.device(1, 'h', 0, -4) + "open(1, 1, '" + kind + "', 1) = 0; " + Setup.send(0, 9);
            check("a transaction out, " + kind, setup, "taken(1, 1) = %a; ", new String[] {"- 1 1 1 0 0 d",
                "c 0 0 0 0 0 -", "d 1 0 1 0 0 -", "a 1 0 1 0 0 -", "n 0 1 0 0 0 -", "s 0 1 0 0 0 s", "b 0 0 0 0 0 -",
                "t 0 0 0 0 0 -"});
        }
    }

    private static void eachFaultIn() {
        String setup = Setup.device(1, 'h', 0, 4) + "open(1, 1, 'i', 1) = 0; " + Setup.load(1, 1, 1, 9)
            + Setup.ask(0, 1);
        check("a transaction in", setup, "got() = %a; waiting(1, 1) = %b; ", new String[] {"- 1 1 1 0 0 d",
            "c 0 0 0 1 0 -", "d 1 0 0 1 0 -", "a 1 0 1 1 0 d", "n 0 1 0 1 0 -", "s 0 1 0 1 0 s", "b 0 0 0 1 1 -",
            "t 1 1 0 0 1 -"});
    }

    private static void eachFaultWhereNothingWaits() {
        for (char kind : new char[] {'b', 'i', 's'}) {
            String setup = Setup.device(1, 'h', 0, 4) + "open(1, 1, '" + kind + "', 1) = 0; " + Setup.ask(0, 1);
            String[] lines = {"- 0 1 0 0 0 -", "c 0 0 0 0 0 -", "d 0 1 0 0 0 -", "a 0 1 0 0 0 -", "n 0 1 0 0 0 -",
                "s 0 1 0 0 0 s", "b 0 0 0 0 1 -", "t 0 1 0 0 0 -"};
            String[] silent = {"- 0 0 0 0 0 -", "c 0 0 0 0 0 -", "d 0 0 0 0 0 -", "a 0 0 0 0 0 -", "n 0 0 0 0 0 -",
                "s 0 0 0 0 0 -", "b 0 0 0 0 1 -", "t 0 0 0 0 0 -"};
            check("a transaction in where no byte waits, " + kind, setup, "got() = %a; waiting(1, 1) = %b; ",
                kind == 's' ? silent : lines);
        }
    }

    private static void eachFaultInSound() {
        check("a sound transaction out", Setup.device(1, 'h', 0, -4) + "open(1, 1, 's', 1) = 0; " + Setup.send(0, 9),
            "taken(1, 1) = %a; ", new String[] {"- 1 0 1 0 0 d", "c 0 0 0 0 0 l", "d 1 0 0 0 0 l", "a 1 0 0 0 0 l",
                "n 0 0 0 0 0 l", "s 0 0 0 0 0 l", "b 0 0 0 0 0 l", "t 0 0 0 0 0 l"});
        String setup = Setup.device(1, 'h', 0, 4) + "open(1, 1, 's', 1) = 0; " + Setup.load(1, 1, 1, 9);
        check("a sound transaction in", setup + Setup.ask(0, 1), "got() = %a; waiting(1, 1) = %b; ", new String[] {
            "- 1 0 1 0 0 d", "c 0 0 0 0 0 l", "d 1 0 0 0 0 l", "a 1 0 0 0 0 l", "n 0 0 0 0 0 l", "s 0 0 0 0 0 l",
            "b 0 0 0 1 1 -", "t 0 0 0 0 0 l"});
        check("a short sound packet in", setup + Setup.ask(0, 2), "got() = %a; waiting(1, 1) = %b; ", new String[] {
            "- 1 0 1 0 0 h", "c 0 0 0 0 0 h", "d 1 0 0 0 0 h", "a 1 0 0 0 0 h", "n 0 0 0 0 0 h", "s 0 0 0 0 0 h",
            "b 0 0 0 1 1 -", "t 0 0 0 0 0 h"});
    }

    private static void haltedDoesNothing() {
        for (char kind : new char[] {'b', 'i'}) {
            Script.run("a halted pipe does nothing until it is cleared, " + kind, Setup.device(1, 'h', 0, -4)
                + "open(1, 1, '" + kind + "', 1) = 0; fault(1, 1, 's', 1) = 0; " + Setup.send(0, 9)
                + Edge.forNumbers(2, 4, "type(%s) = 1; send(0) = %s; ") + "ring(0) = 3; frame() = 1; event() = 's'; "
                + "isHalted(0) = true; "
                + Edge.forNumbers(1, 5, "frame() = 0; events() = 0; ") + "clear(0) = 3; isHalted(0) = false; frame() = "
                + (kind == 'b' ? 3 : 1) + "; taken(1, 1) = " + (kind == 'b' ? 3 : 1));
        }
    }
}
