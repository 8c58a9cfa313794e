/** Promises 35 to 42, 51 and 52, and the terms on frames and events: each sentence that names a bound or a refusal. */
final class EdgeFrameTests {
    private EdgeFrameTests() {
    }

    static void run() {
        hundredUnits();
        roomForOneByte();
        roomOfFullTranslator();
        roomOfLowTranslator();
        roomForPacketSentAgain();
        unitsOfEachTranslator();
        roundOfBulkPipes();
        roundBehindOthers();
        turnsUntilNobodyCan();
        phasesOfFrames();
        periodicTakeNoTurns();
        nobodyCan();
        leftBounds();
        sixEvents();
        missedOfEachKind();
        lastEvent();
        busyShare();
        meanBytes();
        shutAtTheNextFrame();
    }

    /** Three high devices with bulk pipes 0 to 8, all out of the host but the last one. */
    private static String nine() {
        StringBuilder text = new StringBuilder();
        for (int device = 1; device <= 3; device++) {
            text.append(Setup.device(device, 'h', device - 1, -8, -8, device == 3 ? 8 : -8));
        }
        for (int pipe = 0; pipe <= 8; pipe++) {
            text.append("open(").append(pipe / 3 + 1).append(", ").append(pipe % 3 + 1).append(", 'b', 0) = ")
                .append(pipe).append("; ");
        }
        return text.toString();
    }

    private static String sent(int pipe, int bytes) {
        return Edge.typed(bytes) + "send(" + pipe + ") = 1; ring(" + pipe + ") = 1; ";
    }

    /** Twelve bulk pipes, the last one into the host; 90 units are used by the first nine. */
    private static String ninety() {
        StringBuilder text = new StringBuilder();
        for (int device = 1; device <= 4; device++) {
            text.append(Setup.device(device, 'h', device - 1, -8, -8, device == 4 ? 8 : -8));
        }
        for (int pipe = 0; pipe <= 11; pipe++) {
            text.append("open(").append(pipe / 3 + 1).append(", ").append(pipe % 3 + 1).append(", 'b', 0) = ")
                .append(pipe).append("; ").append(pipe < 9 ? sent(pipe, 8) : "");
        }
        return text.toString();
    }

    private static void hundredUnits() {
        for (int bytes = 1; bytes <= 8; bytes++) {
            Script.run("100 units of the host, 90 and " + (2 + bytes), ninety() + sent(9, bytes)
                + "frame() = 10; left(-1) = " + (8 - bytes) + "; taken(4, 1) = " + bytes + "; frame() = 0; "
                + "left(-1) = 100");
        }
        for (int bytes = 1; bytes <= 7; bytes++) {
            Script.run("100 units of the host, " + (92 + bytes) + " and 10", ninety() + sent(9, bytes) + sent(10, 8)
                + "frame() = 10; left(-1) = " + (8 - bytes) + "; taken(4, 2) = 0; events() = 6; frame() = 1; "
                + "taken(4, 2) = 8; left(-1) = 90");
        }
        Script.run("100 units of the host, not one more", ninety() + sent(9, 8) + sent(10, 1)
            + "frame() = 10; left(-1) = 0; taken(4, 2) = 0; frame() = 1; taken(4, 2) = 1");
    }

    private static void roomForOneByte() {
        String asked = "ask(11, 5) = 1; ring(11) = 1; ";
        Script.run("at least one byte for those into the host: 3 units are left", ninety() + sent(9, 5) + asked
            + "frame() = 11; left(-1) = 0; frame() = 1; left(-1) = 97");
        Script.run("at least one byte for those into the host: 2 units are left", ninety() + sent(9, 6) + asked
            + "frame() = 10; left(-1) = 2; frame() = 1; left(-1) = 97");
        Script.run("as many bytes as wait: 5 units are left for 3", ninety() + sent(9, 3) + asked
            + Setup.load(4, 3, 3, 7, 8, 9) + "frame() = 11; left(-1) = 0; got() = 3");
        Script.run("as many bytes as wait: 4 units are left for 3", ninety() + sent(9, 4) + asked
            + Setup.load(4, 3, 3, 7, 8, 9) + "frame() = 10; left(-1) = 4; got() = 0; frame() = 1; got() = 3; "
            + "left(-1) = 95");
        Script.run("what a fault spoils pays as if all went well", ninety() + sent(9, 4) + asked
            + Setup.load(4, 3, 3, 7, 8, 9) + "fault(4, 3, 'n', 1) = 0; frame() = 10; left(-1) = 4; frame() = 1; "
            + "left(-1) = 95; got() = 0; fault(4, 3, 's', 1) = 0; frame() = 1; left(-1) = 95; isHalted(11) = true");
    }

    private static void roomOfFullTranslator() {
        String two = Setup.device(1, 'f', 0, -8, -8, -8) + Setup.device(2, 'f', 1, 8) + "open(1, 1, 'b', 0) = 0; "
            + "open(1, 2, 'b', 0) = 1; open(1, 3, 'b', 0) = 2; open(2, 1, 'b', 0) = 3; ask(3, 4) = 1; ring(3) = 1; "
            + sent(0, 8) + sent(1, 8);
        Script.run("60 units of a translator: 6 are left for one byte of a full device", two + sent(2, 5)
            + "frame() = 4; left(0) = 0; left(-1) = 70");
        Script.run("60 units of a translator: 4 are left for one byte of a full device", two + sent(2, 6)
            + "frame() = 3; left(0) = 4; left(-1) = 72; frame() = 1; left(0) = 54");
        Script.run("60 units of a translator: three packets of 8", two + sent(2, 8) + "frame() = 3; left(0) = 0");
        Script.run("60 units of a translator: 6 are left for two bytes", two + sent(2, 5) + Setup.load(2, 1, 2, 5, 6)
            + "frame() = 3; left(0) = 6; got() = 0; frame() = 1; got() = 2; left(0) = 52");
    }

    private static void roomOfLowTranslator() {
        for (int bytes = 1; bytes <= 8; bytes++) {
            boolean isFit = bytes <= 6;
            Script.run("60 units of a translator: a low packet of " + bytes, Setup.device(1, 'l', 0, -8, 8)
                + "open(1, 1, 'b', 0) = 0; " + sent(0, bytes) + "frame() = " + (isFit ? 1 : 0) + "; left(0) = "
                + (isFit ? 52 - 8 * bytes : 60) + "; left(-1) = " + (isFit ? 98 - bytes : 100) + "; taken(1, 1) = "
                + (isFit ? bytes : 0) + "; open(1, 2, 'b', 0) = 1; " + Edge.typed(bytes) + "load(1, 2) = " + bytes
                + "; ask(1, " + bytes + ") = 1; ring(1) = 1; frame() = " + (isFit ? 1 : 0) + "; got() = "
                + (isFit ? bytes : 0));
        }
        String two = Setup.device(1, 'l', 0, -8, -8, 8) + "open(1, 1, 'b', 0) = 0; open(1, 2, 'b', 0) = 1; "
            + "open(1, 3, 'b', 0) = 2; ask(2, 4) = 1; ring(2) = 1; ";
        Script.run("60 units of a translator: 20 are left for one byte of a low device", two + sent(0, 2) + sent(1, 1)
            + "frame() = 3; left(0) = 4");
        Script.run("60 units of a translator: 12 are left for one byte of a low device", two + sent(0, 2) + sent(1, 2)
            + "frame() = 2; left(0) = 12; frame() = 1; left(0) = 44");
    }

    private static void roomForPacketSentAgain() {
        Script.run("a packet sent again fits by its own bytes", Setup.device(1, 'f', 0, -8, -8, -8)
            + Setup.device(2, 'f', 1, 8) + "open(1, 1, 'b', 0) = 0; open(1, 2, 'b', 0) = 1; open(1, 3, 'b', 0) = 2; "
            + "open(2, 1, 'b', 0) = 3; fault(2, 1, 'd', 1) = 0; " + Setup.load(2, 1, 2, 5, 6) + Setup.ask(3, 8)
            + "frame() = 1; cancel(3) = 0; " + Setup.ask(3, 1) + Setup.load(2, 1, 4, 7, 8) + sent(0, 8) + sent(1, 8)
            + sent(2, 4) + "frame() = 4; left(0) = 0; got() = 2; event() = 'x'; event() = 'd'; event() = 'd'; "
            + "event() = 'd'; " + Setup.event('d', 3, 2));
    }

    private static void unitsOfEachTranslator() {
        Script.run("each translator has 60 units of its own", """
            make('h', 1, 1, true, 0) = 1; make('f', 0, 1, false, 0) = 2; make('f', 0, 1, false, 0) = 3;
            endpoint(2, 1, false, 8) = 1; endpoint(3, 1, false, 8) = 1; plug(1, 0, 0) = 1; plug(2, 1, 0) = 2;
            plug(3, 0, 1) = 1; look() = 1; look() = 3; look() = 2; open(2, 1, 'b', 0) = 0; open(3, 1, 'b', 0) = 1;
            """ + Edge.typed(16) + "send(0) = 1; " + Edge.typed(16) + "send(0) = 2; ring(0) = 2; " + Edge.typed(16)
            + "send(1) = 1; " + Edge.typed(16) + "send(1) = 2; ring(1) = 2; frame() = 6; left(0) = 0; left(1) = 0; "
            + "left(-1) = 40; left(2) = 60; left(3) = 60; frame() = 2; left(0) = 40; left(1) = 40; left(-1) = 80");
    }

    private static String twelve() {
        StringBuilder text = new StringBuilder();
        for (int device = 1; device <= 4; device++) {
            text.append(Setup.device(device, 'h', device - 1, -1, -1, -1));
        }
        for (int pipe = 0; pipe <= 11; pipe++) {
            text.append("open(").append(pipe / 3 + 1).append(", ").append(pipe % 3 + 1).append(", 'b', 0) = ")
                .append(pipe).append("; ");
        }
        return text.toString();
    }

    private static void roundOfBulkPipes() {
        StringBuilder all = new StringBuilder();
        for (int pipe = 0; pipe <= 11; pipe++) {
            all.append(sent(pipe, 1));
        }
        for (int last = -1; last <= 11; last++) {
            StringBuilder text = new StringBuilder(twelve());
            if (last >= 0) {
                text.append(sent(last, 1)).append("frame() = 1; event() = 'd'; ");
            }
            text.append(all).append("frame() = 12; left(-1) = 64; missed() = 6; ");
            for (int turn = 1; turn <= 6; turn++) {
                text.append(Setup.event('d', (last + turn) % 12, 1));
            }
            Script.run("the round of the bulk pipes behind " + last, text.toString());
        }
    }

    private static void roundBehindOthers() {
        Script.run("the last turn of all: by a pipe that is closed then", twelve() + sent(5, 1)
            + "frame() = 1; event() = 'd'; close(5) = 0; frame() = 0; " + sent(4, 1) + sent(6, 1) + "frame() = 2; "
            + Setup.event('d', 6, 1) + Setup.event('d', 4, 1));
        Script.run("the last turn of all: by a failure, and by a stall", twelve() + "fault(2, 3, 'c', 1) = 0; "
            + sent(5, 1) + "frame() = 1; " + sent(2, 1) + "frame() = 2; " + Setup.event('d', 2, 1)
            + Setup.event('d', 5, 1) + "fault(3, 3, 's', 1) = 0; " + sent(8, 1) + "frame() = 1; "
            + Setup.event('s', 8, 0)
            + sent(0, 1) + sent(9, 1) + "frame() = 2; " + Setup.event('d', 9, 1) + Setup.event('d', 0, 1));
    }

    private static void turnsUntilNobodyCan() {
        Script.run("bulk pipes take turns until nobody can", twelve() + sent(0, 3) + sent(1, 1) + sent(2, 2)
            + "frame() = 6; " + Setup.event('d', 1, 1) + Setup.event('d', 2, 2) + Setup.event('d', 0, 3)
            + "left(-1) = 82");
        Script.run("those that failed or were told 'not yet' have no more turns", twelve() + "fault(1, 1, 'c', 1) = 0; "
            + "fault(1, 2, 'n', 1) = 0; " + sent(0, 3) + sent(1, 3) + sent(2, 3) + "frame() = 5; taken(1, 1) = 0; "
            + "taken(1, 2) = 0; taken(1, 3) = 3; frame() = 6; taken(1, 1) = 3; taken(1, 2) = 3; left(-1) = 82");
        Script.run("one that fits goes on behind one that does not", nine() + sent(0, 16) + sent(1, 16) + sent(2, 16)
            + sent(3, 16) + sent(4, 9) + sent(5, 8) + sent(6, 2) + "frame() = 11; left(-1) = 3; taken(3, 1) = 2; "
            + "taken(2, 3) = 8; taken(1, 1) = 16; taken(1, 2) = 16; taken(1, 3) = 16; taken(2, 1) = 8; "
            + "taken(2, 2) = 9; "
            + "frame() = 1; taken(2, 1) = 16");
    }

    private static void phasesOfFrames() {
        for (int interval = 1; interval <= 8; interval *= 2) {
            for (char kind : new char[] {'i', 's'}) {
                StringBuilder text = new StringBuilder(Setup.device(1, 'h', 0, -1, -1) + "open(1, 1, '" + kind + "', "
                    + interval + ") = 0; open(1, 2, '" + kind + "', " + interval + ") = 1; phaseOf(0) = 0; "
                    + "phaseOf(1) = "
                    + (interval == 1 ? 0 : 1) + "; " + sent(0, 16) + sent(1, 16));
                for (int frame = 1; frame <= 17; frame++) {
                    int first = frame % interval == 0 ? 1 : 0;
                    int second = frame % interval == (interval == 1 ? 0 : 1) ? 1 : 0;
                    boolean isOver = interval == 1 && frame == 17;
                    text.append("frame() = ").append(isOver ? 0 : first + second).append("; frames() = ").append(frame)
                        .append("; ");
                }
                Script.run("frames whose number modulo " + interval + " is the phase, " + kind, text.toString());
            }
        }
    }

    private static void periodicTakeNoTurns() {
        Script.run("interrupt and sound pipes do one transaction each, ahead of the bulk pipes",
            Setup.device(1, 'h', 0, -1, -1, -1) + """
            open(1, 1, 'b', 0) = 0; open(1, 2, 'i', 1) = 1; open(1, 3, 's', 1) = 2;
            """ + sent(0, 4) + sent(1, 4) + sent(2, 4) + "frame() = 6; taken(1, 1) = 4; taken(1, 2) = 1; "
            + "taken(1, 3) = 1; frame() = 2; frame() = 2; frame() = 2; frame() = 0; " + Setup.event('d', 0, 4)
            + Setup.event('d', 1, 4) + Setup.event('d', 2, 4));
    }

    private static void nobodyCan() {
        Script.run("36 frames: a frame in which nothing is done", "frames() = 0; " + Edge.forNumbers(1, 20,
            "frame() = 0; frames() = %s; left(-1) = 100; left(0) = 60; ") + "packets('t') = 0; events() = 0");
        Script.run("a pipe of a device that is not configured waits", Setup.device(1, 'h', 0, -8)
            + "open(1, 1, 'b', 0) = 0; type(1) = 1; send(0) = 1; frame() = 0; ring(0) = 1; draw(1, 6) = 1; "
            + "frame() = 0; "
            + "stateOf(1) = 's'; frame() = 0; clear(0) = 1; frame() = 0; taken(1, 1) = 0");
    }

    private static void leftBounds() {
        String two = Setup.device(1, 'h', 0) + Setup.device(2, 'f', 1);
        Script.run("37 left: two exceptions at once", two + Edge.index("left(%s)", -1, 2)
            + Edge.noElement("left(-1)", "left(0)", "left(1)", "left(2)") + "frame() = 0; "
            + Edge.index("left(%s)", -1, 2)
            + "left(-1) = 100; left(0) = 60; left(1) = 60; left(2) = 60; make('h', 0, 1, false, 0) = 3; left(3) = 60; "
            + Edge.index("left(%s)", -1, 3));
    }

    private static String cancelled(int many) {
        return Edge.forNumbers(1, many, "ask(0, 1) = 1; cancel(0) = 0; ");
    }

    private static void sixEvents() {
        for (int many = 0; many <= 9; many++) {
            int kept = Math.min(many, 6);
            Script.run("a row of 6 events, " + many, Setup.device(1, 'h', 0, 8) + "open(1, 1, 'b', 0) = 0; "
                + Edge.noElement("event()", "eventPipe()", "eventBytes()") + cancelled(many) + "events() = " + kept
                + "; missed() = " + (many - kept) + "; " + Edge.noElement("eventPipe()", "eventBytes()")
                + Edge.forNumbers(1, kept, Setup.event('x', 0, 0)) + "events() = 0; " + Edge.noElement("event()")
                + "missed() = " + (many - kept) + "; " + (many == 0 ? Edge.noElement("eventPipe()", "eventBytes()")
                    : "eventPipe() = 0; eventBytes() = 0; ")
                + cancelled(1) + "events() = 1; event() = 'x'; " + Edge.noElement("event()"));
        }
        Script.run("a row of 6 events, taken and filled again and again", Setup.device(1, 'h', 0, 8)
            + "open(1, 1, 'b', 0) = 0; " + cancelled(6) + Edge.forNumbers(1, 20, "event() = 'x'; events() = 5; "
                + cancelled(1) + "events() = 6; missed() = 0; ") + cancelled(1) + "missed() = 1; events() = 6");
    }

    private static void missedOfEachKind() {
        String full = Setup.device(1, 'h', 0, 8, -8) + "open(1, 1, 'b', 0) = 0; open(1, 2, 'b', 0) = 1; "
            + cancelled(6);
        String none = "events() = 6; missed() = 1; " + Edge.forNumbers(1, 6, "event() = 'x'; ")
            + Edge.noElement("event()");
        Script.run("missed, d", full + Setup.send(1, 1, 2) + "frame() = 1; meanBytes() = 0.2857142857142857; " + none);
        Script.run("missed, h", full + Setup.load(1, 1, 1, 9) + Setup.ask(0, 2) + "frame() = 1; got() = 1; " + none);
        Script.run("missed, e", full + "fault(1, 2, 'c', 3) = 0; " + Setup.send(1, 1)
            + "frame() = 1; frame() = 1; missed() = 0; frame() = 1; isHalted(1) = true; " + none);
        Script.run("missed, s", full + "fault(1, 2, 's', 1) = 0; " + Setup.send(1, 1) + "frame() = 1; "
            + "causeOf(1) = 's'; "
            + none);
        Script.run("missed, x by close", full + "ask(0, 1) = 1; close(0) = 1; " + none);
        Script.run("missed, g", full + "ask(0, 1) = 1; unplug(1) = 1; " + none);
        Script.run("missed, l", full + "close(1) = 0; open(1, 2, 's', 1) = 1; fault(1, 2, 'c', 1) = 0; "
            + Setup.send(1, 1) + "frame() = 1; " + none);
    }

    private static void lastEvent() {
        Script.run("40 eventPipe and 41 eventBytes: of the event that was taken last", Setup.device(1, 'h', 0, 8, -8)
            + "open(1, 1, 'b', 0) = 0; open(1, 2, 'b', 0) = 1; " + Setup.send(1, 1, 2, 3) + "frame() = 1; "
            + "ask(0, 1) = 1; "
            + "cancel(0) = 0; " + Edge.noElement("eventPipe()", "eventBytes()") + "event() = 'd'; eventPipe() = 1; "
            + "eventBytes() = 3; event() = 'x'; eventPipe() = 0; eventBytes() = 0; " + Edge.noElement("event()")
            + "eventPipe() = 0; eventBytes() = 0; " + Setup.send(1, 4) + "frame() = 1; eventPipe() = 0; "
            + "eventBytes() = 0; "
            + "event() = 'd'; eventPipe() = 1; eventBytes() = 1; unplug(1) = 1; eventPipe() = 1");
    }

    private static void busyShare() {
        String full = nine() + sent(0, 16) + sent(1, 16) + sent(2, 16) + sent(3, 16) + sent(4, 16);
        Script.run("51 busyShare: no frame, none used, and all used", full + "busyShare() throws ArithmeticException; "
            + "frame() = 10; left(-1) = 0; busyShare() = 1.0; frame() = 0; busyShare() = 0.5; frame() = 0; "
            + "busyShare() = 0.33333334; frame() = 0; busyShare() = 0.25");
        Script.run("51 busyShare: of the host's units alone, whatever came of them", Setup.device(1, 'f', 0, 8)
            + "open(1, 1, 'b', 0) = 0; frame() = 0; busyShare() = 0.0; fault(1, 1, 'c', 1) = 0; " + Setup.ask(0, 1)
            + "frame() = 1; busyShare() = 0.015");
    }

    private static void meanBytes() {
        Script.run("52 meanBytes: none is over, and one of no bytes", Setup.device(1, 'h', 0, 8, -8)
            + "open(1, 1, 'b', 0) = 0; open(1, 2, 'b', 0) = 1; meanBytes() throws ArithmeticException; ask(0, 1) = 1; "
            + "meanBytes() throws ArithmeticException; frame() = 0; meanBytes() throws ArithmeticException; "
            + "cancel(0) = 0; meanBytes() = 0.0; " + sent(1, 16) + "frame() = 2; meanBytes() = 8.0; event() = 'x'; "
            + "event() = 'd'; meanBytes() = 8.0");
    }

    private static void shutAtTheNextFrame() {
        Script.run("a frame shuts those that draw too much ahead of all else", Setup.device(1, 'h', 0, -8, -8)
            + Setup.device(2, 'h', 1, -8) + "open(1, 1, 'i', 1) = 0; open(1, 2, 'b', 0) = 1; open(2, 1, 'b', 0) = 2; "
            + sent(0, 1) + sent(1, 1) + sent(2, 1) + "draw(1, 6) = 1; stateOf(1) = 'c'; blame(1) = 0; frame() = 1; "
            + "stateOf(1) = 's'; blame(1) = 1; taken(1, 1) = 0; taken(1, 2) = 0; taken(2, 1) = 1; frame() = 0; "
            + "blame(1) = 1; draw(2, 5) = 1; frame() = 0; stateOf(2) = 'c'");
    }
}
