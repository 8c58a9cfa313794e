/** Promises 35 and 39 to 47: how transfers go on by transactions, with and without faults, and how they are over. */
final class TransferTests {
    private static final String PAIR = Setup.device(1, 'h', 0, 4, -4)
        + "open(1, 1, 'b', 0) = 0; open(1, 2, 'b', 0) = 1; ";
    private static final String SOUND = Setup.device(1, 'h', 0, 4, -4)
        + "open(1, 1, 's', 1) = 0; open(1, 2, 's', 1) = 1; ";

    private TransferTests() {
    }

    static void run() {
        firstExample();
        out();
        in();
        shortPackets();
        delays();
        spoiledOut();
        spoiledIn();
        handshakeSpoiledIn();
        sentAgainJustAsItWas();
        oneAfterAnother();
        rowsOfFailures();
        rowsOverTransfers();
        stalls();
        babbles();
        babbleOfHub();
        lies();
        nothingToSpoil();
        soundWell();
        soundLost();
        soundShort();
        soundBabble();
    }

    private static void firstExample() {
        Script.run("first example of the document", """
            make('h', 0, 1, false, 10) = 1; endpoint(1, 1, false, 8) = 1; plug(1, 0, 0) = 1; look() = 1;
            stateOf(1) = 'c'; open(1, 1, 'b', 0) = 0; type(5) = 1; send(0) = 1; ring(0) = 1; frame() = 1;
            event() = 'd'; taken(1, 1) = 1.
            """);
    }

    private static void out() {
        Script.run("35 frame, out", PAIR + Setup.send(1, 1, 2, 3, 4, 5, 6, 7, 8, 9) + "frame() = 3; taken(1, 2) = 9; "
            + "takenAt(1, 2, 0) = 9; takenAt(1, 2, 8) = 1; left(-1) = 85; " + Setup.event('d', 1, 9)
            + Setup.send(1, 1, 2, 3, 4) + "frame() = 1; " + Setup.event('d', 1, 4) + "left(-1) = 94; frame() = 0");
    }

    private static void in() {
        Script.run("35 frame, in", PAIR + Setup.load(1, 1, 9, 1, 2, 3, 4, 5, 6, 7, 8, 9) + Setup.ask(0, 8)
            + "frame() = 2; got() = 8; gotAt(0) = 8; gotAt(7) = 1; waiting(1, 1) = 1; " + Setup.event('d', 0, 8)
            + "left(-1) = 88; " + Setup.ask(0, 1) + "frame() = 1; " + Setup.event('d', 0, 1) + "left(-1) = 97");
        Script.run("35 frame, in, what is asked for bounds the packet", PAIR + Setup.load(1, 1, 3, 1, 2, 3)
            + Setup.ask(0, 2) + "frame() = 1; " + Setup.event('d', 0, 2) + "waiting(1, 1) = 1");
        Script.run("35 frame, in, a whole packet goes on", PAIR + Setup.load(1, 1, 4, 1, 2, 3, 4) + Setup.ask(0, 6)
            + "frame() = 2; events() = 0; got() = 4; " + Setup.load(1, 1, 3, 5, 6, 7) + "frame() = 1; "
            + Setup.event('d', 0, 6) + "waiting(1, 1) = 1; gotAt(0) = 6");
    }

    private static void shortPackets() {
        Script.run("39 event, short", PAIR + Setup.load(1, 1, 5, 1, 2, 3, 4, 5) + Setup.ask(0, 16) + "frame() = 2; "
            + Setup.event('h', 0, 5) + "got() = 5; waiting(1, 1) = 0");
        Script.run("39 event, short, and the last byte", PAIR + Setup.load(1, 1, 3, 1, 2, 3) + Setup.ask(0, 3)
            + "frame() = 1; " + Setup.event('d', 0, 3));
    }

    private static void delays() {
        Script.run("34 fault n", PAIR + "fault(1, 2, 'n', 2) = 0; " + Setup.send(1, 7) + "frame() = 1; frame() = 1; "
            + "events() = 0; taken(1, 2) = 0; packets('d') = 0; packets('h') = 2; frame() = 1; taken(1, 2) = 1; "
            + "fault(1, 1, 'n', 1) = 0; " + Setup.load(1, 1, 1, 5) + Setup.ask(0, 1) + "frame() = 1; got() = 0; "
            + "waiting(1, 1) = 1; frame() = 1; got() = 1; " + Setup.ask(0, 1) + "frame() = 1; frame() = 1; "
            + "isHalted(0) = false; event() = 'd'; event() = 'd'; events() = 0");
    }

    private static void spoiledOut() {
        Script.run("34 fault c, out", PAIR + "fault(1, 2, 'c', 2) = 0; " + Setup.send(1, 7) + "frame() = 1; "
            + "taken(1, 2) = 0; frame() = 1; taken(1, 2) = 0; packets('d') = 0; packets('h') = 0; frame() = 1; "
            + "taken(1, 2) = 1; " + Setup.event('d', 1, 1));
        for (char kind : new char[] {'d', 'a'}) {
            Script.run("34 fault " + kind + ", out", PAIR + "fault(1, 2, '" + kind + "', 1) = 0; "
                + Setup.send(1, 7, 8, 9, 10, 11) + "frame() = 1; taken(1, 2) = 4; packets('d') = 1; "
                + "packets('h') = 0; events() = 0; frame() = 2; taken(1, 2) = 5; takenAt(1, 2, 0) = 11; "
                + "takenAt(1, 2, 1) = 10; packets('d') = 3; packets('h') = 2; " + Setup.event('d', 1, 5));
        }
        for (char kind : new char[] {'b', 't'}) {
            Script.run("34 fault " + kind + ", out", PAIR + "fault(1, 2, '" + kind + "', 1) = 0; " + Setup.send(1, 7)
                + "frame() = 1; taken(1, 2) = 0; packets('d') = 0; packets('h') = 0; stateOf(1) = 'c'; blame(1) = 0; "
                + "frame() = 1; taken(1, 2) = 1");
        }
    }

    private static void spoiledIn() {
        Script.run("34 fault c, in", PAIR + "fault(1, 1, 'c', 1) = 0; " + Setup.load(1, 1, 1, 7) + Setup.ask(0, 2)
            + "frame() = 1; got() = 0; packets('d') = 0; packets('h') = 0; " + Setup.load(1, 1, 2, 8)
            + "frame() = 1; got() = 2; " + Setup.event('d', 0, 2));
        Script.run("34 fault d, in", PAIR + "fault(1, 1, 'd', 1) = 0; " + Setup.load(1, 1, 1, 7) + Setup.ask(0, 2)
            + "frame() = 1; got() = 0; packets('d') = 1; packets('h') = 0; waiting(1, 1) = 1; "
            + Setup.load(1, 1, 2, 8) + "frame() = 1; got() = 1; gotAt(0) = 7; packets('d') = 2; packets('h') = 1; "
            + Setup.event('h', 0, 1) + "waiting(1, 1) = 1");
    }

    private static void handshakeSpoiledIn() {
        Script.run("34 fault a, in", PAIR + "fault(1, 1, 'a', 2) = 0; "
            + Setup.load(1, 1, 6, 1, 2, 3, 4, 5, 6) + Setup.ask(0, 6) + "frame() = 1; got() = 4; waiting(1, 1) = 6; "
            + "packets('d') = 1; packets('h') = 0; events() = 0; frame() = 1; got() = 4; packets('d') = 2; "
            + "packets('h') = 0; frame() = 2; got() = 6; gotAt(0) = 6; gotAt(1) = 5; gotAt(5) = 1; "
            + "packets('d') = 4; packets('h') = 2; waiting(1, 1) = 0; " + Setup.event('d', 0, 6));
        Script.run("34 fault a, in, the packet is the last one of its transfer", PAIR + "fault(1, 1, 'a', 1) = 0; "
            + Setup.load(1, 1, 2, 1, 2) + Setup.ask(0, 4) + "frame() = 1; " + Setup.event('h', 0, 2)
            + "waiting(1, 1) = 2; " + Setup.load(1, 1, 3, 3) + Setup.ask(0, 1) + "frame() = 2; got() = 3; "
            + "gotAt(0) = 3; gotAt(1) = 2; " + Setup.event('d', 0, 1) + "waiting(1, 1) = 0");
        Script.run("34 fault a, in, and another transfer in the same frame waits", PAIR + "fault(1, 1, 'a', 1) = 0; "
            + Setup.load(1, 1, 2, 1, 2) + "ask(0, 1) = 1; ask(0, 1) = 2; ring(0) = 2; frame() = 1; got() = 1; "
            + "frame() = 2; got() = 2; gotAt(0) = 2");
    }

    private static void sentAgainJustAsItWas() {
        Script.run("a packet sent again, longer than what is asked for", PAIR + "fault(1, 1, 'd', 1) = 0; "
            + Setup.load(1, 1, 4, 1, 2, 3, 4) + Setup.ask(0, 4) + "frame() = 1; cancel(0) = 0; event() = 'x'; "
            + Setup.ask(0, 1) + "frame() = 1; left(-1) = 94; " + Setup.event('d', 0, 4)
            + "got() = 4; gotAt(0) = 4; waiting(1, 1) = 0");
        Script.run("a packet sent again, not taken again", PAIR + "fault(1, 1, 'a', 1) = 0; "
            + Setup.load(1, 1, 3, 1, 2, 3) + Setup.ask(0, 3) + "frame() = 1; " + Setup.event('d', 0, 3)
            + Setup.ask(0, 1) + "frame() = 2; got() = 3; waiting(1, 1) = 0; events() = 0; packets('h') = 2; "
            + Setup.load(1, 1, 1, 9) + "frame() = 1; " + Setup.event('d', 0, 1));
        Script.run("a packet sent again, 'not yet' and 'c' between", PAIR + "fault(1, 1, 'd', 1) = 0; "
            + Setup.load(1, 1, 2, 1, 2) + Setup.ask(0, 3) + "frame() = 1; " + Setup.load(1, 1, 3, 3)
            + "fault(1, 1, 'n', 1) = 0; frame() = 1; fault(1, 1, 'c', 1) = 0; frame() = 1; frame() = 1; got() = 2; "
            + Setup.event('h', 0, 2) + "waiting(1, 1) = 1");
    }

    private static void oneAfterAnother() {
        String four = "type(1) = 1; send(1) = 1; type(1) = 1; send(1) = 2; type(1) = 1; send(1) = 3; type(1) = 1; "
            + "send(1) = 4; ring(1) = 4; frame() = 4; event() = 'd'; event() = 'd'; event() = 'd'; event() = 'd'; ";
        Script.run("29 ring, five transfers one after another", PAIR + four + "type(1) = 1; send(1) = 1; frame() = 0; "
            + "ring(1) = 1; frame() = 1; taken(1, 2) = 5");
        StringBuilder sound = new StringBuilder("fault(1, 2, 'd', 1) = 0; " + Setup.send(1, 1) + "frame() = 1; "
            + Setup.event('l', 1, 1));
        StringBuilder asked = new StringBuilder(Setup.load(1, 1, 1, 1) + Setup.ask(0, 2) + "frame() = 1; "
            + Setup.event('h', 0, 1));
        for (int i = 0; i < 4; i++) {
            sound.append(Setup.send(1, 1)).append("frame() = 1; ").append(Setup.event('d', 1, 1));
            asked.append(Setup.load(1, 1, 4, 1, 2, 3, 4)).append(Setup.ask(0, 8))
                .append("fault(1, 1, 'c', 1) = 0; frame() = 1; events() = 0; frame() = 2; events() = 0; ")
                .append(Setup.load(1, 1, 4, 1, 2, 3, 4)).append("frame() = 1; ").append(Setup.event('d', 0, 8));
        }
        Script.run("39 event, sound, five transfers one after another", SOUND + sound);
        Script.run("39 event, short, five transfers one after another", PAIR + asked);
    }

    private static void rowsOfFailures() {
        Script.run("39 event, three failures in a row", PAIR + "fault(1, 2, 'c', 2) = 0; "
            + Setup.send(1, 1, 2, 3, 4, 5) + "frame() = 1; frame() = 1; fault(1, 2, 'n', 1) = 0; frame() = 1; "
            + "isHalted(1) = false; fault(1, 2, 'c', 1) = 0; frame() = 1; isHalted(1) = true; "
            + Setup.event('e', 1, 0) + "taken(1, 2) = 0");
        Script.run("39 event, a row ends by what is no failure", PAIR + "fault(1, 2, 'c', 2) = 0; "
            + Setup.send(1, 1, 2, 3, 4, 5, 6, 7, 8, 9) + "frame() = 1; frame() = 1; frame() = 3; events() = 1; "
            + "event() = 'd'; fault(1, 2, 'd', 2) = 0; " + Setup.send(1, 1) + "frame() = 1; frame() = 1; "
            + "isHalted(1) = false; frame() = 1; event() = 'd'; clear(1) = 0; fault(1, 2, 'c', 2) = 0; "
            + Setup.send(1, 1) + "frame() = 1; frame() = 1; isHalted(1) = false");
        Script.run("39 event, a lie ends a row", PAIR + Setup.load(1, 1, 8, 1, 2, 3, 4, 5, 6, 7, 8)
            + "fault(1, 1, 'c', 2) = 0; " + Setup.ask(0, 8) + "frame() = 1; frame() = 1; fault(1, 1, 't', 1) = 0; "
            + "frame() = 3; isHalted(0) = false; got() = 4; gotAt(0) = 8; waiting(1, 1) = 0; "
            + "fault(1, 1, 'c', 2) = 0; frame() = 1; frame() = 1; isHalted(0) = false; fault(1, 1, 'c', 1) = 0; "
            + "frame() = 1; isHalted(0) = true; " + Setup.event('e', 0, 4));
        Script.run("39 event, by interrupt too", Setup.device(1, 'h', 0, 4, -4) + "open(1, 2, 'i', 2) = 0; "
            + "fault(1, 2, 'c', 3) = 0; phaseOf(0) = 0; " + Setup.send(0, 1) + "type(2) = 1; send(0) = 2; "
            + "ring(0) = 1; frame() = 0; frame() = 1; frame() = 0; frame() = 1; frame() = 0; frame() = 1; "
            + Setup.event('e', 0, 0) + "isHalted(0) = true; frame() = 0; frame() = 0; clear(0) = 1; frame() = 0; "
            + "frame() = 1; " + Setup.event('d', 0, 1));
    }

    private static void rowsOverTransfers() {
        Script.run("39 event, a row goes on in the next transfer", PAIR + "fault(1, 1, 'a', 3) = 0; "
            + Setup.load(1, 1, 2, 1, 2) + "ask(0, 2) = 1; ask(0, 2) = 2; ring(0) = 2; frame() = 1; "
            + Setup.event('d', 0, 2) + "frame() = 1; isHalted(0) = false; frame() = 1; isHalted(0) = true; "
            + "causeOf(0) = 'a'; " + Setup.event('e', 0, 0) + "got() = 2; waiting(1, 1) = 2; clear(0) = 0; "
            + Setup.ask(0, 2) + "frame() = 1; got() = 4; waiting(1, 1) = 0");
    }

    private static void stalls() {
        Script.run("34 fault s, in", PAIR + Setup.load(1, 1, 2, 1, 2) + "fault(1, 1, 's', 1) = 0; "
            + "ask(0, 2) = 1; ask(0, 1) = 2; ring(0) = 2; frame() = 1; isHalted(0) = true; " + Setup.event('s', 0, 0)
            + "packets('d') = 0; packets('h') = 1; frame() = 0; waiting(1, 1) = 2; clear(0) = 1; frame() = 1; "
            + Setup.event('d', 0, 1) + "stateOf(1) = 'c'; blame(1) = 0");
        Script.run("34 fault s, where no byte waits", PAIR + "fault(1, 1, 's', 1) = 0; " + Setup.ask(0, 1)
            + "frame() = 1; " + Setup.event('s', 0, 0) + "isHalted(0) = true; causeOf(0) = 's'");
        Script.run("34 fault s, out, behind bytes that are done", PAIR + Setup.send(1, 1, 2, 3, 4, 5)
            + "fault(1, 2, 'c', 1) = 0; frame() = 1; fault(1, 2, 's', 1) = 0; frame() = 1; taken(1, 2) = 0; "
            + Setup.event('s', 1, 0));
    }

    private static void babbles() {
        Script.run("34 fault b, in", PAIR + Setup.load(1, 1, 2, 1, 2) + "fault(1, 1, 'b', 2) = 0; " + Setup.ask(0, 2)
            + Setup.send(1, 5) + "frame() = 1; stateOf(1) = 's'; blame(1) = 1; packets('d') = 0; packets('h') = 0; "
            + "waiting(1, 1) = 2; got() = 0; events() = 0; isHalted(0) = false; frame() = 0; phaseOf(1) = -1; "
            + "hubOf(1) = 0; addressOf(1) = 1; unplug(1) = 1; " + Setup.event('g', 0, 0) + Setup.event('g', 1, 0)
            + "fault(1, 1, 'b', 1) = 1");
        Script.run("34 fault b, in, where no byte waits", PAIR + "fault(1, 1, 'b', 1) = 0; " + Setup.ask(0, 2)
            + "frame() = 1; left(-1) = 97; stateOf(1) = 's'; blame(1) = 1");
    }

    private static void babbleOfHub() {
        Script.run("34 fault b, by a hub", """
            make('h', 2, 1, true, 0) = 1; endpoint(1, 1, true, 4) = 1; make('h', 0, 1, false, 0) = 2;
            endpoint(2, 1, false, 4) = 1; endpoint(2, 2, false, 4) = 2; plug(1, 0, 0) = 1; plug(2, 1, 1) = 2;
            look() = 1; look() = 2; open(2, 1, 'b', 0) = 0; open(1, 1, 'i', 1) = 1; open(2, 2, 'i', 1) = 2;
            fault(1, 1, 'b', 1) = 0; ask(1, 3) = 1; ring(1) = 1; type(1) = 1; send(0) = 1; ring(0) = 1;
            type(1) = 1; send(2) = 1; ring(2) = 1; frame() = 1; stateOf(1) = 's'; stateOf(2) = 'u'; reserved(1, -1) = 6;
            event() = 'g'; eventPipe() = 0; event() = 'g'; eventPipe() = 2; events() = 0; phaseOf(1) = 0;
            phaseOf(2) throws NoSuchElementException.
            """);
    }

    private static void lies() {
        Script.run("34 fault t, in", PAIR + Setup.load(1, 1, 6, 1, 2, 3, 4, 5, 6) + "fault(1, 1, 't', 1) = 0; "
            + Setup.ask(0, 2) + "frame() = 2; got() = 2; gotAt(0) = 4; gotAt(1) = 3; waiting(1, 1) = 2; "
            + "packets('d') = 2; packets('h') = 2; blame(1) = 1; stateOf(1) = 'c'; " + Setup.event('d', 0, 2));
        Script.run("34 fault t, a lie in place of a packet sent again", PAIR + Setup.load(1, 1, 3, 1, 2, 3)
            + "fault(1, 1, 'a', 1) = 0; " + Setup.ask(0, 2) + "frame() = 1; " + Setup.event('d', 0, 2)
            + "fault(1, 1, 't', 1) = 0; " + Setup.ask(0, 1) + "frame() = 3; got() = 2; waiting(1, 1) = 0; "
            + "blame(1) = 1; " + Setup.load(1, 1, 1, 8) + "frame() = 1; got() = 3; gotAt(0) = 8; event() = 'd'");
        Script.run("34 fault t, short, does not end the transfer", PAIR + Setup.load(1, 1, 1, 1)
            + "fault(1, 1, 't', 1) = 0; " + Setup.ask(0, 3) + "frame() = 2; events() = 0; waiting(1, 1) = 0");
    }

    private static void nothingToSpoil() {
        for (char kind : new char[] {'d', 'a', 't'}) {
            Script.run("34 fault " + kind + ", where no byte waits", PAIR + "fault(1, 1, '" + kind + "', 2) = 0; "
                + Setup.ask(0, 3) + "frame() = 1; frame() = 1; frame() = 1; isHalted(0) = false; packets('h') = 3; "
                + "packets('d') = 0; blame(1) = 0; fault(1, 1, 'c', 3) = 0; frame() = 1; frame() = 1; frame() = 1; "
                + "isHalted(0) = true; packets('h') = 3");
        }
    }

    private static void soundWell() {
        Script.run("35 frame, sound", SOUND + Setup.load(1, 1, 4, 1, 2, 3, 4) + Setup.ask(0, 4)
            + Setup.send(1, 5, 6, 7, 8, 9) + "frame() = 2; got() = 4; taken(1, 2) = 4; " + Setup.event('d', 0, 4)
            + "events() = 0; frame() = 1; taken(1, 2) = 5; " + Setup.event('d', 1, 5) + "packets('d') = 3; "
            + "packets('h') = 0; " + Setup.ask(0, 1) + "frame() = 1; events() = 0; packets('h') = 0; left(-1) = 97");
    }

    private static void soundLost() {
        for (char kind : new char[] {'c', 'd', 'a', 'n', 's', 'b', 't'}) {
            boolean isSent = kind == 'd' || kind == 'a';
            Script.run("34 fault " + kind + ", sound, out", SOUND + "fault(1, 2, '" + kind + "', 4) = 0; "
                + Setup.send(1, 1, 2, 3, 4, 5) + "frame() = 1; taken(1, 2) = 0; events() = 0; packets('d') = "
                + (isSent ? 1 : 0) + "; packets('h') = 0; fault(1, 2, 'c', 1) = 3; fault(1, 2, 'c', 1) = 1; "
                + "frame() = 1; taken(1, 2) = 0; isHalted(1) = false; blame(1) = 0; stateOf(1) = 'c'; "
                + Setup.event('l', 1, 5) + Setup.send(1, 9) + "frame() = 1; taken(1, 2) = 1; "
                + Setup.event('d', 1, 1));
            if (kind != 'b') {
                Script.run("34 fault " + kind + ", sound, in", SOUND + "fault(1, 1, '" + kind + "', 1) = 0; "
                    + Setup.load(1, 1, 6, 1, 2, 3, 4, 5, 6) + Setup.ask(0, 5) + "frame() = 1; got() = 0; "
                    + "waiting(1, 1) = 2; packets('d') = " + (isSent ? 1 : 0) + "; packets('h') = 0; frame() = 1; "
                    + "got() = 1; gotAt(0) = 5; waiting(1, 1) = 1; blame(1) = 0; " + Setup.event('l', 0, 5)
                    + "isHalted(0) = false");
                Script.run("34 fault " + kind + ", sound, where no byte waits", SOUND + "fault(1, 1, '" + kind
                    + "', 2) = 0; " + Setup.ask(0, 4) + "frame() = 1; events() = 0; packets('d') = 0; "
                    + "packets('h') = 0; frame() = 1; " + Setup.load(1, 1, 4, 1, 2, 3, 4) + "frame() = 1; "
                    + Setup.event('d', 0, 4) + "blame(1) = 0");
            }
        }
        Script.run("34 faults four in a row, sound", SOUND + "fault(1, 2, 'c', 4) = 0; "
            + Setup.send(1, 1, 2, 3, 4, 5, 6, 7, 8, 9, 10, 11, 12, 13) + "frame() = 1; frame() = 1; frame() = 1; "
            + "frame() = 1; isHalted(1) = false; " + Setup.event('l', 1, 13));
    }

    private static void soundShort() {
        Script.run("39 event, sound, short", SOUND + Setup.load(1, 1, 2, 1, 2) + Setup.ask(0, 5)
            + "frame() = 1; got() = 2; " + Setup.event('h', 0, 2) + "fault(1, 1, 'd', 1) = 0; "
            + Setup.load(1, 1, 2, 3, 4) + Setup.ask(0, 5) + "frame() = 1; got() = 2; " + Setup.event('h', 0, 2)
            + "waiting(1, 1) = 0; fault(1, 1, 'd', 1) = 0; " + Setup.load(1, 1, 2, 3, 4) + Setup.ask(0, 2)
            + "frame() = 1; " + Setup.event('l', 0, 2));
    }

    private static void soundBabble() {
        Script.run("34 fault b, sound, in", SOUND + Setup.load(1, 1, 2, 1, 2) + "fault(1, 1, 'b', 1) = 0; "
            + Setup.ask(0, 2) + "frame() = 1; stateOf(1) = 's'; blame(1) = 1; waiting(1, 1) = 2; got() = 0; "
            + "events() = 0; packets('d') = 0; cancel(0) = 0");
        Script.run("34 fault b, sound, in, where no byte waits", SOUND + "fault(1, 1, 'b', 1) = 0; "
            + Setup.ask(0, 2) + "frame() = 1; stateOf(1) = 's'; blame(1) = 1; events() = 0");
    }
}
