/** Promises 35 to 42, 51 and 52: frames, their units, the turns of pipes, events and means. */
final class FrameTests {
    private FrameTests() {
    }

    static void run() {
        frames();
        left();
        turns();
        turnsGoOnInTheNextFrame();
        turnsOfTwelve();
        whatFits();
        whatFitsExactly();
        whatFitsOfTheTranslator();
        paidWhatever();
        phases();
        periodicFirst();
        notDueOrNotBegun();
        events();
        eventsOfAll();
        busyShare();
        meanBytes();
    }

    private static void frames() {
        Script.run("36 frames", "frames() = 0; frame() = 0; frames() = 1; frame() = 0; frame() = 0; frames() = 3");
    }

    private static void left() {
        Script.run("37 left", Setup.device(1, 'f', 0, -4) + """
            left(0) throws NoSuchElementException; left(-2) throws IndexOutOfBoundsException;
            left(2) throws IndexOutOfBoundsException; frame() = 0; left(-1) = 100; left(0) = 60; left(2)
            throws IndexOutOfBoundsException; left(-2) throws IndexOutOfBoundsException; open(1, 1, 'b', 0) = 0;
            """ + Setup.send(0, 1, 2, 3, 4, 5) + """
            frame() = 2; left(-1) = 91; left(0) = 42; frame() = 0; left(-1) = 100; left(0) = 60.
            """);
        Script.run("37 left, low and behind another translator", """
            make('h', 2, 1, true, 0) = 1; make('l', 0, 1, false, 0) = 2; endpoint(2, 1, false, 2) = 1;
            plug(1, 0, 0) = 1; plug(2, 1, 0) = 2; look() = 1; look() = 2; open(2, 1, 'b', 0) = 0;
            """ + Setup.send(0, 1, 2, 3) + "frame() = 2; left(-1) = 93; left(1) = 20; left(0) = 60; unplug(1) = 2; "
            + "left(1) = 20");
    }

    private static void turns() {
        Script.run("35 frame, turns", Setup.device(1, 'h', 0, -1, -1, -1) + """
            open(1, 1, 'b', 0) = 0; open(1, 2, 'b', 0) = 1; open(1, 3, 'b', 0) = 2;
            """ + Setup.send(1, 1, 2) + Setup.send(0, 3) + Setup.send(2, 4, 5, 6) + """
            frame() = 6; event() = 'd'; eventPipe() = 0; event() = 'd'; eventPipe() = 1; event() = 'd';
            eventPipe() = 2;
            """ + Setup.send(0, 1) + Setup.send(1, 1) + "frame() = 2; event() = 'd'; eventPipe() = 0; "
            + "event() = 'd'; eventPipe() = 1; " + Setup.send(0, 1) + Setup.send(1, 1) + Setup.send(2, 1)
            + "frame() = 3; event() = 'd'; eventPipe() = 2; event() = 'd'; eventPipe() = 0; event() = 'd'; "
            + "eventPipe() = 1");
    }

    private static void turnsGoOnInTheNextFrame() {
        Script.run("35 frame, the last turn of all", Setup.device(1, 'h', 0, -8, -8, -1) + """
            open(1, 1, 'b', 0) = 0; open(1, 2, 'b', 0) = 1; open(1, 3, 'i', 1) = 2;
            """ + Setup.send(0, 1) + "frame() = 1; " + Setup.send(2, 1) + "frame() = 1; " + Setup.send(0, 1)
            + Setup.send(1, 1) + "frame() = 2; events() = 4; event() = 'd'; event() = 'd'; event() = 'd'; "
            + "eventPipe() = 1; event() = 'd'; eventPipe() = 0");
        Script.run("35 frame, a turn with 'not yet' is one", Setup.device(1, 'h', 0, -8, 8) + """
            open(1, 1, 'b', 0) = 0; open(1, 2, 'b', 0) = 1;
            """ + Setup.ask(1, 1) + "frame() = 1; " + Setup.send(0, 1) + Setup.load(1, 2, 1, 4) + "frame() = 2; "
            + "event() = 'd'; eventPipe() = 0; event() = 'd'; eventPipe() = 1");
    }

    private static void turnsOfTwelve() {
        StringBuilder text = new StringBuilder();
        for (int device = 1; device <= 4; device++) {
            text.append(Setup.device(device, 'h', device - 1, -1, -1, -1));
        }
        for (int pipe = 0; pipe < 12; pipe++) {
            text.append("open(").append(pipe / 3 + 1).append(", ").append(pipe % 3 + 1).append(", 'b', 0) = ")
                .append(pipe).append("; ");
        }
        for (int pipe : new int[] {11, 6, 5, 1, 0}) {
            text.append(Setup.send(pipe, 7));
        }
        text.append("frame() = 5; ");
        for (int pipe : new int[] {0, 1, 5, 6, 11}) {
            text.append(Setup.event('d', pipe, 1));
        }
        for (int pipe : new int[] {10, 3, 0}) {
            text.append(Setup.send(pipe, 7));
        }
        text.append("frame() = 3; ").append(Setup.event('d', 0, 1)).append(Setup.event('d', 3, 1))
            .append(Setup.event('d', 10, 1));
        Script.run("35 frame, turns of twelve", text.toString());
    }

    private static void whatFitsExactly() {
        String sixteen = "type(0) = 1; type(0) = 2; type(0) = 3; type(0) = 4; type(0) = 5; type(0) = 6; type(0) = 7; "
            + "type(0) = 8; type(0) = 9; type(0) = 10; type(0) = 11; type(0) = 12; type(0) = 13; type(0) = 14; "
            + "type(0) = 15; type(0) = 16; send(0) = ";
        Script.run("35 frame, what fits into the host's units exactly", Setup.device(1, 'h', 0, -8, -8) + """
            open(1, 1, 'b', 0) = 0; open(1, 2, 'b', 0) = 1;
            """ + sixteen + "1; " + sixteen + "2; " + sixteen + "3; " + sixteen + "4; ring(0) = 4; "
            + Setup.send(1, 1, 2, 3, 4, 5, 6, 7, 8, 9, 10, 11, 12, 13, 14, 15, 16)
            + "frame() = 10; left(-1) = 0; taken(1, 1) = 64; taken(1, 2) = 16");
        Script.run("35 frame, what fits into the translator's units exactly", Setup.device(1, 'f', 0, -8) + """
            open(1, 1, 'b', 0) = 0;
            """ + sixteen + "1; " + sixteen + "2; ring(0) = 2; frame() = 3; left(0) = 0; left(-1) = 70; frame() = 1");
    }

    private static void whatFits() {
        Script.run("35 frame, what fits into the host's units", Setup.device(1, 'h', 0, -1, -2) + """
            open(1, 1, 'b', 0) = 0; open(1, 2, 'b', 0) = 1; type(1) = 1; type(1) = 2; type(1) = 3; type(1) = 4;
            type(1) = 5; type(1) = 6; type(1) = 7; type(1) = 8; type(1) = 9; type(1) = 10; type(1) = 11;
            type(1) = 12; type(1) = 13; type(1) = 14; type(1) = 15; type(1) = 16; send(0) = 1; type(1) = 1;
            type(1) = 2; type(1) = 3; type(1) = 4; type(1) = 5; type(1) = 6; type(1) = 7; type(1) = 8; type(1) = 9;
            type(1) = 10; type(1) = 11; type(1) = 12; type(1) = 13; type(1) = 14; type(1) = 15; type(1) = 16;
            send(0) = 2; type(1) = 1; type(1) = 2; send(0) = 3; ring(0) = 3; frame() = 33; left(-1) = 1;
            taken(1, 1) = 33; event() = 'd'; event() = 'd'; events() = 0; frame() = 1; left(-1) = 97.
            """);
    }

    private static void whatFitsOfTheTranslator() {
        Script.run("35 frame, what fits into the translator's units", Setup.device(1, 'l', 0, -3, -2)
            + Setup.device(2, 'h', 1, -8) + """
            open(1, 1, 'b', 0) = 0; open(1, 2, 'b', 0) = 1; open(2, 1, 'b', 0) = 2;
            """ + Setup.send(0, 1, 2, 3, 4, 5) + Setup.send(1, 6, 7, 8) + Setup.send(2, 1, 2, 3, 4, 5, 6, 7, 8, 9)
            + "frame() = 4; left(0) = 4; left(-1) = 78; taken(1, 1) = 3; taken(1, 2) = 2; taken(2, 1) = 9; "
            + "frame() = 2; left(0) = 20; taken(1, 1) = 5; taken(1, 2) = 3");
        Script.run("35 frame, a packet that never fits", Setup.device(1, 'l', 0, -8, 8) + """
            open(1, 1, 'b', 0) = 0; open(1, 2, 'b', 0) = 1;
            """ + Setup.send(0, 1, 2, 3, 4, 5, 6, 7) + "frame() = 0; cancel(0) = 0; " + Setup.send(0, 1, 2, 3, 4, 5, 6)
            + "frame() = 1; left(0) = 4; " + Setup.load(1, 2, 8, 1, 2, 3, 4, 5, 6, 7, 8) + Setup.ask(1, 7)
            + "frame() = 0; cancel(1) = 0; " + Setup.ask(1, 6) + "frame() = 1; got() = 6");
    }

    private static void paidWhatever() {
        Script.run("35 frame, units are used whatever comes of it", Setup.device(1, 'f', 0, 4, -4) + """
            open(1, 1, 'b', 0) = 0; open(1, 2, 'b', 0) = 1; fault(1, 2, 'c', 1) = 0;
            """ + Setup.ask(0, 3) + "frame() = 1; left(-1) = 97; left(0) = 54; " + Setup.send(1, 1, 2, 3, 4, 5)
            + "frame() = 2; left(-1) = 91; left(0) = 42; fault(1, 1, 'n', 1) = 0; fault(1, 2, 's', 1) = 0; "
            + Setup.load(1, 1, 5, 1, 2, 3, 4, 5) + "frame() = 2; left(-1) = 89; left(0) = 38");
    }

    private static void phases() {
        Script.run("35 frame, phases", Setup.device(1, 'h', 0, -1, -1, -1) + """
            open(1, 1, 'i', 4) = 0; phaseOf(0) = 0; open(1, 2, 's', 4) = 1; phaseOf(1) = 1; open(1, 3, 'i', 8) = 2;
            phaseOf(2) = 2;
            """ + Setup.send(0, 1, 2) + Setup.send(1, 3, 4) + Setup.send(2, 5, 6) + """
            frame() = 1; taken(1, 2) = 1; frame() = 1; taken(1, 3) = 1; frame() = 0; frame() = 1; taken(1, 1) = 1;
            frame() = 1; taken(1, 2) = 2; frame() = 0; frame() = 0; frame() = 1; taken(1, 1) = 2; frame() = 0;
            frame() = 1; taken(1, 3) = 2; events() = 3.
            """);
    }

    private static void periodicFirst() {
        Script.run("35 frame, interrupt and sound pipes first", Setup.device(1, 'h', 0, -1, -1, -1) + """
            open(1, 1, 'b', 0) = 0; open(1, 2, 's', 1) = 1; open(1, 3, 'i', 1) = 2;
            """ + Setup.send(0, 1) + Setup.send(2, 3) + Setup.send(1, 2) + "frame() = 3; event() = 'd'; "
            + "eventPipe() = 1; event() = 'd'; eventPipe() = 2; event() = 'd'; eventPipe() = 0");
    }

    private static void notDueOrNotBegun() {
        Script.run("35 frame, what waits", Setup.device(1, 'h', 0, -1, -1) + """
            open(1, 1, 'i', 1) = 0; open(1, 2, 'b', 0) = 1; type(1) = 1; send(0) = 1; type(1) = 1; send(1) = 1;
            frame() = 0; ring(0) = 1; frame() = 1; ring(1) = 1; frame() = 1.
            """);
    }

    private static void events() {
        Script.run("38 to 42: events", Setup.device(1, 'h', 0, -8, 8) + """
            events() = 0; event() throws NoSuchElementException; eventPipe() throws NoSuchElementException;
            eventBytes() throws NoSuchElementException; open(1, 1, 'b', 0) = 0; open(1, 2, 'b', 0) = 1;
            """ + Setup.send(0, 1, 2) + """
            frame() = 1; events() = 1; eventPipe() throws NoSuchElementException; eventBytes()
            throws NoSuchElementException; ask(1, 1) = 1; ask(1, 2) = 2; ask(1, 3) = 3; close(1) = 3; events() = 4;
            event() = 'd'; eventPipe() = 0; eventBytes() = 2; eventPipe() = 0; event() = 'x'; eventPipe() = 1;
            eventBytes() = 0; event() = 'x'; event() = 'x'; event() throws NoSuchElementException; eventPipe() = 1.
            """);
    }

    private static void eventsOfAll() {
        Script.run("42 missed", Setup.device(1, 'h', 0, -8, 8) + """
            open(1, 2, 'b', 0) = 0; ask(0, 1) = 1; ask(0, 1) = 2; ask(0, 1) = 3; ask(0, 1) = 4; close(0) = 4;
            open(1, 2, 'b', 0) = 0; ask(0, 1) = 1; ask(0, 1) = 2; missed() = 0; ask(0, 1) = 3; close(0) = 3;
            events() = 6; missed() = 1; open(1, 1, 'b', 0) = 0;
            """ + Setup.send(0, 5, 6) + """
            frame() = 1; missed() = 2; events() = 6; meanBytes() = 0.25; event() = 'x'; events() = 5;
            """ + Setup.send(0, 7) + """
            frame() = 1; events() = 6; missed() = 2; event() = 'x'; event() = 'x'; event() = 'x'; event() = 'x';
            event() = 'x'; event() = 'd'; eventBytes() = 1; events() = 0; missed() = 2.
            """);
    }

    private static void busyShare() {
        Script.run("51 busyShare", Setup.device(1, 'h', 0, -8, 8) + """
            busyShare() throws ArithmeticException; frame() = 0; busyShare() = 0.0; open(1, 1, 'b', 0) = 0;
            """ + Setup.send(0, 1, 2, 3) + """
            frame() = 1; busyShare() = 0.025; frame() = 0; busyShare() = 0.016666668.
            """);
    }

    private static void meanBytes() {
        Script.run("52 meanBytes", Setup.device(1, 'h', 0, -8, 8) + """
            meanBytes() throws ArithmeticException; open(1, 1, 'b', 0) = 0;
            """ + Setup.send(0, 1, 2, 3) + """
            meanBytes() throws ArithmeticException; frame() = 1; meanBytes() = 3.0; type(1) = 1; send(0) = 1;
            cancel(0) = 0; meanBytes() = 1.5; type(1) = 1; type(1) = 2; send(0) = 1; ring(0) = 1; frame() = 1;
            meanBytes() = 1.6666666666666667.
            """);
    }
}
