/** Where sentences meet: the end of a transfer and what waits behind it, and a packet that is sent again. */
final class MeetEndTests {
    private static final String PAIR = Setup.device(1, 'h', 0, 4, -4)
        + "open(1, 1, 'b', 0) = 0; open(1, 2, 'b', 0) = 1; ";

    private MeetEndTests() {
    }

    static void run() {
        nextInTheSameFrame();
        nextBehindShort();
        nextBehindStall();
        nextBehindThirdFailure();
        nextBehindLossy();
        nextBehindCancel();
        thirdFailureThatWasTaken();
        lieEndsRow();
        rowsThatEnd();
        outSentTwice();
        outForgotten();
        inSentTwice();
        sentAgainOverStates();
        sentAgainAndFaults();
        sentAgainByInterrupt();
        haltedBehindPacket();
        notTakenAgain();
    }

    private static void nextInTheSameFrame() {
        Script.run("behind 'd' the next one goes on in the same frame, if its doorbell was rung", PAIR
            + "type(1) = 1; type(2) = 2; type(3) = 3; send(1) = 1; type(4) = 1; send(1) = 2; ring(1) = 2; "
            + "type(5) = 1; send(1) = 3; frame() = 2; left(-1) = 92; taken(1, 2) = 4; frame() = 0; ring(1) = 1; "
            + "frame() = 1; takenAt(1, 2, 0) = 5; " + Setup.event('d', 1, 3) + Setup.event('d', 1, 1)
            + Setup.event('d', 1, 1));
        Script.run("behind 'd' the next one asks for what waits still", PAIR + Setup.load(1, 1, 6, 1, 2, 3, 4, 5, 6)
            + "ask(0, 2) = 1; ask(0, 3) = 2; ask(0, 4) = 3; ring(0) = 3; frame() = 3; got() = 6; gotAt(0) = 6; "
            + "left(-1) = 88; " + Setup.event('d', 0, 2) + Setup.event('d', 0, 3) + Setup.event('h', 0, 1));
    }

    private static void nextBehindShort() {
        Script.run("behind 'h' the next one is told 'not yet' in the same frame", PAIR + Setup.load(1, 1, 3, 1, 2, 3)
            + "ask(0, 8) = 1; ask(0, 2) = 2; ring(0) = 2; frame() = 2; left(-1) = 92; packets('h') = 2; "
            + "packets('d') = 1; "
            + Setup.event('h', 0, 3) + "events() = 0; " + Setup.load(1, 1, 2, 4, 5) + "frame() = 1; "
            + Setup.event('d', 0, 2));
    }

    private static void nextBehindStall() {
        Script.run("behind 's' the next one waits until the pipe is cleared, its doorbell stays rung", PAIR
            + "type(1) = 1; send(1) = 1; type(2) = 1; send(1) = 2; type(3) = 1; send(1) = 3; ring(1) = 3; "
            + "fault(1, 2, 's', 1) = 0; " + Setup.load(1, 1, 1, 9) + Setup.ask(0, 1) + "frame() = 2; got() = 1; "
            + Setup.event('d', 0, 1) + Setup.event('s', 1, 0) + "isHalted(1) = true; frame() = 0; cancel(1) = 0; "
            + Setup.event('x', 1, 0) + "type(4) = 1; send(1) = 2; ring(1) = 1; frame() = 0; isHalted(1) = true; "
            + "clear(1) = 2; isHalted(1) = false; frame() = 2; takenAt(1, 2, 1) = 3; takenAt(1, 2, 0) = 4; "
            + "taken(1, 2) = 2; causeOf(1) = 's'");
    }

    private static void nextBehindThirdFailure() {
        Script.run("behind 'e' the next one waits until it is cleared", Setup.device(1, 'h', 0, 4, -4)
            + "open(1, 2, 'i', 1) = 0; type(1) = 1; type(2) = 2; type(3) = 3; type(4) = 4; type(5) = 5; send(0) = 1; "
            + "type(6) = 1; send(0) = 2; ring(0) = 2; frame() = 1; fault(1, 2, 'd', 3) = 0; frame() = 1; "
            + "taken(1, 2) = 5; frame() = 1; isHalted(0) = false; frame() = 1; isHalted(0) = true; taken(1, 2) = 5; "
            + Setup.event('e', 0, 4) + "causeOf(0) = 'd'; frame() = 0; clear(0) = 1; frame() = 1; taken(1, 2) = 6; "
            + "takenAt(1, 2, 0) = 6; " + Setup.event('d', 0, 1) + "meanBytes() = 2.5");
    }

    private static void nextBehindLossy() {
        Script.run("behind 'l' the next one is over by 'd', in the next frame of its phase", """
            make('h', 0, 1, false, 0) = 1; endpoint(1, 1, false, 4) = 1; plug(1, 0, 0) = 1; look() = 1;
            open(1, 1, 's', 2) = 0; phaseOf(0) = 0; type(1) = 1; send(0) = 1; type(2) = 1; send(0) = 2;
            type(3) = 1; send(0) = 3; ring(0) = 3; fault(1, 1, 'a', 1) = 0; frame() = 0; frame() = 1; frame() = 0;
            frame() = 1; frame() = 0; fault(1, 1, 'n', 1) = 0; frame() = 1; taken(1, 1) = 1; takenAt(1, 1, 0) = 2;
            event() = 'l'; eventBytes() = 1; event() = 'd'; event() = 'l'; packets('d') = 2; packets('h') = 0.
            """);
    }

    private static void nextBehindCancel() {
        Script.run("behind 'x' the next one goes on, if its doorbell was rung", PAIR + Setup.send(1, 1, 2, 3, 4, 5)
            + "type(6) = 1; send(1) = 2; type(7) = 1; send(1) = 3; cancel(1) = 0; " + Setup.event('x', 1, 0)
            + "frame() = 0; ring(1) = 2; cancel(1) = 0; frame() = 1; taken(1, 2) = 1; takenAt(1, 2, 0) = 7");
    }

    // The host took the last packet by the third failure: what it asked for is done, so it does not halt.
    private static void thirdFailureThatWasTaken() {
        String two = PAIR + "fault(1, 1, 'c', 2) = 0; " + Setup.load(1, 1, 2, 1, 2);
        String third = "frame() = 1; frame() = 1; fault(1, 1, 'a', 1) = 0; frame() = 1; got() = 2; ";
        String unhalted = "isHalted(0) = false; causeOf(0) throws UnsupportedOperationException; waiting(1, 1) = 2; ";
        Script.run("the third failure by 'a', and all bytes are done", two + Setup.ask(0, 2) + third
            + Setup.event('d', 0, 2) + unhalted + Setup.load(1, 1, 3, 3) + Setup.ask(0, 1) + "frame() = 2; "
            + Setup.event('d', 0, 1) + "got() = 3; gotAt(0) = 3; waiting(1, 1) = 0; isHalted(0) = false");
        Script.run("the third failure by 'a', and the packet was a short one", two + Setup.ask(0, 3) + third
            + Setup.event('h', 0, 2) + unhalted);
        Script.run("the third failure by 'a', and bytes are still asked for", PAIR + "fault(1, 1, 'd', 2) = 0; "
            + Setup.load(1, 1, 4, 1, 2, 3, 4) + Setup.ask(0, 5) + "frame() = 1; frame() = 1; fault(1, 1, 'a', 1) = 0; "
            + "frame() = 1; got() = 4; isHalted(0) = true; causeOf(0) = 'a'; " + Setup.event('e', 0, 4));
    }

    private static void lieEndsRow() {
        Script.run("a lie ends a row of failures, also if nothing comes behind it", PAIR + Setup.load(1, 1, 1, 1)
            + "fault(1, 1, 'c', 2) = 0; " + Setup.ask(0, 4) + "frame() = 1; frame() = 1; fault(1, 1, 't', 1) = 0; "
            + "frame() = 2; got() = 0; waiting(1, 1) = 0; fault(1, 1, 'c', 2) = 0; frame() = 1; frame() = 1; "
            + "isHalted(0) = false; events() = 0; fault(1, 1, 'c', 1) = 0; frame() = 1; isHalted(0) = true");
        Script.run("a lie where no byte waits is 'not yet', and ends no row of failures", PAIR
            + "fault(1, 1, 'c', 2) = 0; " + Setup.ask(0, 4) + "frame() = 1; frame() = 1; fault(1, 1, 't', 1) = 0; "
            + "frame() = 1; blame(1) = 0; fault(1, 1, 'c', 1) = 0; frame() = 1; isHalted(0) = true; causeOf(0) = 'c'");
    }

    private static void rowsThatEnd() {
        Script.run("a packet that is acknowledged ends a row of failures, though the transfer goes on", PAIR
            + "fault(1, 2, 'c', 2) = 0; " + Setup.send(1, 1, 2, 3, 4, 5, 6, 7, 8, 9, 10, 11, 12, 13, 14, 15, 16)
            + "frame() = 1; frame() = 1; fault(1, 2, 'n', 1) = 0; frame() = 1; isHalted(1) = false; frame() = 4; "
            + Setup.event('d', 1, 16));
        Script.run("a stall ends a row of failures", PAIR + "fault(1, 2, 'c', 2) = 0; " + Setup.send(1, 1)
            + "frame() = 1; frame() = 1; fault(1, 2, 's', 1) = 0; frame() = 1; " + Setup.event('s', 1, 0)
            + "causeOf(1) = 's'; clear(1) = 0; fault(1, 2, 'c', 2) = 0; " + Setup.send(1, 2)
            + "frame() = 1; frame() = 1; isHalted(1) = false; frame() = 1; " + Setup.event('d', 1, 1));
        Script.run("a row of failures is over as the pipe is opened anew", PAIR + "fault(1, 2, 'c', 4) = 0; "
            + Setup.send(1, 1) + "frame() = 1; frame() = 1; close(1) = 1; event() = 'x'; open(1, 2, 'b', 0) = 1; "
            + Setup.send(1, 2) + "frame() = 1; frame() = 1; isHalted(1) = false; frame() = 1; "
            + Setup.event('d', 1, 1));
    }

    private static void outSentTwice() {
        String once = PAIR + "fault(1, 2, 'd', 1) = 0; " + Setup.send(1, 7, 8) + "frame() = 1; taken(1, 2) = 2; ";
        Script.run("out, the acknowledgement is spoiled: taken once", once + "frame() = 1; taken(1, 2) = 2; "
            + Setup.event('d', 1, 2) + Setup.send(1, 9) + "frame() = 1; taken(1, 2) = 3");
        Script.run("out, the acknowledgement is spoiled, and it is cleared: taken twice", once + "clear(1) = 1; "
            + "frame() = 1; taken(1, 2) = 4; " + Setup.event('d', 1, 2) + Setup.send(1, 9) + "frame() = 1; "
            + "taken(1, 2) = 5; takenAt(1, 2, 1) = 8; takenAt(1, 2, 3) = 8");
        Script.run("out, the acknowledgement is spoiled, then a stall and a clear", once + "fault(1, 2, 's', 1) = 0; "
            + "frame() = 1; " + Setup.event('s', 1, 0) + "clear(1) = 0; " + Setup.send(1, 9)
            + "frame() = 1; taken(1, 2) = 3; " + Setup.event('d', 1, 1));
        Script.run("out, taken by the third failure, halted and cleared", PAIR + "fault(1, 2, 'a', 3) = 0; "
            + Setup.send(1, 7, 8) + "frame() = 1; frame() = 1; frame() = 1; taken(1, 2) = 2; "
            + Setup.event('e', 1, 0) + "clear(1) = 0; " + Setup.send(1, 7, 8) + "frame() = 1; taken(1, 2) = 4; "
            + Setup.event('d', 1, 2));
    }

    private static void outForgotten() {
        String once = PAIR + "fault(1, 2, 'a', 1) = 0; " + Setup.send(1, 7, 8) + "frame() = 1; taken(1, 2) = 2; ";
        Script.run("out, cancelled behind a packet that was taken: the next one has its toggle, and is not taken", once
            + "cancel(1) = 0; " + Setup.event('x', 1, 0) + Setup.send(1, 9, 10, 11, 12, 13) + "frame() = 2; "
            + Setup.event('d', 1, 5) + "taken(1, 2) = 3; takenAt(1, 2, 0) = 13; takenAt(1, 2, 1) = 8");
        Script.run("out, closed behind a packet that was taken", once + "close(1) = 1; " + Setup.event('x', 1, 0)
            + "open(1, 2, 'i', 1) = 1; " + Setup.send(1, 9) + "frame() = 1; taken(1, 2) = 3; "
            + Setup.event('d', 1, 1));
        Script.run("out, unplugged behind a packet that was taken", once + "unplug(1) = 1; " + Setup.event('g', 1, 0)
            + "plug(1, 0, 3) = 1; look() = 1; open(1, 2, 'b', 0) = 0; " + Setup.send(0, 9)
            + "frame() = 1; taken(1, 2) = 3; " + Setup.event('d', 0, 1));
    }

    private static void inSentTwice() {
        String once = PAIR + "fault(1, 1, 'a', 1) = 0; " + Setup.load(1, 1, 5, 1, 2, 3, 4, 5) + Setup.ask(0, 4)
            + "frame() = 1; " + Setup.event('d', 0, 4) + "got() = 4; waiting(1, 1) = 5; ";
        Script.run("in, the acknowledgement is spoiled, and it is cleared: got twice", once + "clear(0) = 0; "
            + Setup.ask(0, 8) + "frame() = 2; got() = 9; gotAt(0) = 5; gotAt(1) = 4; gotAt(5) = 4; waiting(1, 1) = 0; "
            + Setup.event('h', 0, 5));
        Script.run("in, the acknowledgement is spoiled, and it is opened anew as sound", once + "close(0) = 0; "
            + "open(1, 1, 's', 1) = 0; " + Setup.ask(0, 8) + "frame() = 1; frame() = 1; got() = 9; waiting(1, 1) = 0; "
            + Setup.event('h', 0, 5));
        Script.run("in, the acknowledgement is spoiled, then a stall and a clear", once + "fault(1, 1, 's', 1) = 0; "
            + "ask(0, 1) = 1; ask(0, 5) = 2; ring(0) = 2; frame() = 1; " + Setup.event('s', 0, 0) + "clear(0) = 1; "
            + "frame() = 2; got() = 9; " + Setup.event('d', 0, 5));
    }

    private static void sentAgainOverStates() {
        String once = PAIR + "fault(1, 1, 'd', 1) = 0; " + Setup.load(1, 1, 2, 1, 2) + Setup.ask(0, 2)
            + "frame() = 1; cancel(0) = 0; event() = 'x'; " + Setup.load(1, 1, 5, 3, 4, 5);
        String again = Setup.ask(0, 5) + "frame() = 1; got() = 2; " + Setup.event('h', 0, 2) + "waiting(1, 1) = 3; ";
        String anew = Setup.ask(0, 5) + "frame() = 2; got() = 5; " + Setup.event('d', 0, 5) + "waiting(1, 1) = 0; ";
        Script.run("sent again just as it was, whatever is loaded behind it", once + again);
        Script.run("sent again just as it was, behind a sleep", once + "sleep(1) = 1; wake(1) = 1; frame() = 0; "
            + again);
        Script.run("sent again just as it was, from another transfer of fewer bytes", once + Setup.ask(0, 1)
            + "frame() = 1; got() = 2; " + Setup.event('d', 0, 2) + "waiting(1, 1) = 3; " + Setup.ask(0, 3)
            + "frame() = 1; " + Setup.event('d', 0, 3));
        Script.run("forgotten as the pipe is cleared", once + "clear(0) = 0; waiting(1, 1) = 5; " + anew);
        Script.run("forgotten as the pipe is opened", once + "close(0) = 0; open(1, 1, 'b', 0) = 0; waiting(1, 1) = 5; "
            + anew);
        Script.run("forgotten as the device is plugged, looked at and opened", once + "unplug(1) = 1; "
            + "waiting(1, 1) = 5; "
            + "plug(1, 0, 0) = 1; look() = 1; open(1, 1, 'b', 0) = 0; " + anew);
        Script.run("forgotten as the device is shut, plugged, looked at and opened", once
            + "fault(1, 1, 'b', 1) = 0; " + Setup.ask(0, 1) + "frame() = 1; left(-1) = 96; stateOf(1) = 's'; "
            + "unplug(1) = 1; event() = 'g'; plug(1, 0, 0) = 1; look() = 1; open(1, 1, 'b', 0) = 0; " + anew);
    }

    private static void sentAgainAndFaults() {
        String once = PAIR + "fault(1, 1, 'd', 1) = 0; " + Setup.load(1, 1, 2, 1, 2) + Setup.ask(0, 3)
            + "frame() = 1; packets('d') = 1; " + Setup.load(1, 1, 4, 3, 4);
        for (char kind : new char[] {'c', 'd', 'n'}) {
            Script.run("sent again, and again behind " + kind, once + "fault(1, 1, '" + kind + "', 1) = 0; "
                + "frame() = 1; left(-1) = 96; got() = 0; packets('d') = " + (kind == 'd' ? 2 : 1) + "; packets('h') = "
                + (kind == 'n' ? 1 : 0) + "; frame() = 1; got() = 2; waiting(1, 1) = 2; " + Setup.event('h', 0, 2));
        }
        Script.run("sent again, then taken, and sent again", once + "fault(1, 1, 'a', 1) = 0; frame() = 1; got() = 2; "
            + Setup.event('h', 0, 2) + "waiting(1, 1) = 4; " + Setup.ask(0, 2) + "frame() = 2; got() = 4; "
            + "gotAt(0) = 4; "
            + "waiting(1, 1) = 0; " + Setup.event('d', 0, 2));
        Script.run("sent again, and a lie in its place", once + "fault(1, 1, 't', 1) = 0; frame() = 2; got() = 2; "
            + "gotAt(0) = 4; gotAt(1) = 3; blame(1) = 1; waiting(1, 1) = 0; " + Setup.event('h', 0, 2));
        Script.run("sent again, and a stall in its place", once + "fault(1, 1, 's', 1) = 0; frame() = 1; "
            + Setup.event('s', 0, 0) + "waiting(1, 1) = 4; clear(0) = 0; " + Setup.ask(0, 4) + "frame() = 1; "
            + Setup.event('d', 0, 4));
    }

    private static void sentAgainByInterrupt() {
        Script.run("sent again by an interrupt pipe, in the next frame of its phase", """
            make('f', 0, 1, false, 0) = 1; endpoint(1, 1, true, 4) = 1; plug(1, 0, 0) = 1; look() = 1;
            open(1, 1, 'i', 2) = 0; fault(1, 1, 'd', 1) = 0; type(1) = 1; type(2) = 2; load(1, 1) = 2; ask(0, 4) = 1;
            ring(0) = 1; frame() = 0; frame() = 1; left(-1) = 96; left(0) = 52; type(3) = 1; load(1, 1) = 3;
            frame() = 0; frame() = 1; left(-1) = 96; left(0) = 52; got() = 2; event() = 'h'; eventBytes() = 2;
            ask(0, 1) = 1; ring(0) = 1; frame() = 0; frame() = 1; left(0) = 54; got() = 3; event() = 'd'.
            """);
    }

    private static void haltedBehindPacket() {
        Script.run("halted behind a packet that was not acknowledged, and opened anew", PAIR
            + "fault(1, 1, 'd', 3) = 0; "
            + Setup.load(1, 1, 5, 1, 2, 3, 4, 5) + "ask(0, 2) = 1; ask(0, 3) = 2; ring(0) = 2; frame() = 1; "
            + "frame() = 1; "
            + "frame() = 1; isHalted(0) = true; causeOf(0) = 'd'; " + Setup.event('e', 0, 0) + "close(0) = 1; "
            + Setup.event('x', 0, 0) + "open(1, 1, 'i', 1) = 0; isHalted(0) = false; causeOf(0) throws "
            + "UnsupportedOperationException; waiting(1, 1) = 5; " + Setup.ask(0, 5) + "frame() = 1; got() = 4; "
            + "frame() = 1; "
            + "gotAt(0) = 5; " + Setup.event('d', 0, 5));
        Script.run("halted behind a packet that was not acknowledged, and cleared", PAIR + "fault(1, 1, 'd', 3) = 0; "
            + Setup.load(1, 1, 4, 1, 2, 3, 4) + "ask(0, 2) = 1; ask(0, 3) = 2; ring(0) = 2; frame() = 1; frame() = 1; "
            + "frame() = 1; clear(0) = 1; frame() = 1; left(-1) = 95; got() = 3; waiting(1, 1) = 1; "
            + Setup.event('e', 0, 0) + Setup.event('d', 0, 3) + "causeOf(0) = 'd'");
    }

    private static void notTakenAgain() {
        String once = PAIR + "fault(1, 1, 'a', 1) = 0; " + Setup.load(1, 1, 3, 1, 2, 3) + Setup.ask(0, 3)
            + "frame() = 1; " + Setup.event('d', 0, 3) + Setup.load(1, 1, 8, 4, 5, 6, 7, 8);
        Script.run("not taken again: it is paid by its own bytes, and ends no transfer", once + Setup.ask(0, 1)
            + "frame() = 2; left(-1) = 92; got() = 4; gotAt(0) = 4; packets('d') = 3; packets('h') = 2; "
            + Setup.event('d', 0, 1) + "waiting(1, 1) = 4");
        Script.run("not taken again, spoiled on its way", once + "fault(1, 1, 'd', 1) = 0; " + Setup.ask(0, 5)
            + "frame() = 1; got() = 3; waiting(1, 1) = 8; frame() = 3; got() = 8; " + Setup.event('d', 0, 5));
        Script.run("not taken again, behind a cancelled transfer and a sleep", once + "ask(0, 5) = 1; cancel(0) = 0; "
            + "event() = 'x'; sleep(1) = 1; wake(1) = 1; frame() = 0; " + Setup.ask(0, 5) + "frame() = 3; got() = 8; "
            + Setup.event('d', 0, 5));
        Script.run("not taken again, 'not yet' in its place", once + "fault(1, 1, 'n', 1) = 0; " + Setup.ask(0, 5)
            + "frame() = 1; left(-1) = 95; got() = 3; frame() = 3; got() = 8; waiting(1, 1) = 0");
    }
}
