/** Promises 23 to 34 but for the transactions themselves: pipes, phases, rows of transfers, loading, faults. */
final class PipeTests {
    private PipeTests() {
    }

    static void run() {
        open();
        openTwelve();
        close();
        phases();
        phasesByTranslator();
        hostBound();
        reservedOfTranslators();
        send();
        ask();
        ring();
        halted();
        clear();
        cancel();
        load();
        fault();
    }

    private static void open() {
        Script.run("23 open", Setup.device(1, 'h', 0, 8, -8, 1) + """
            make('h', 0, 1, false, 0) = 2; endpoint(2, 1, true, 1) = 1;
            open(2, 1, 'b', 0) throws UnsupportedOperationException; open(3, 1, 'b', 0)
            throws IndexOutOfBoundsException; open(-1, 1, 'b', 0) throws IndexOutOfBoundsException;
            open(1, 0, 'b', 0) throws IndexOutOfBoundsException; open(1, 4, 'b', 0) throws IndexOutOfBoundsException;
            open(2, 2, 'b', 0) throws IndexOutOfBoundsException; open(0, 1, 'b', 0) throws IndexOutOfBoundsException;
            open(2, 2, 'q', 0) throws IndexOutOfBoundsException; open(2, 1, 'q', 0) throws IllegalArgumentException;
            open(1, 1, 'q', 1) throws IllegalArgumentException; open(1, 1, 'i', 0) throws IllegalArgumentException;
            open(1, 1, 'i', 3) throws IllegalArgumentException; open(1, 1, 's', 16) throws IllegalArgumentException;
            open(1, 1, 's', -1) throws IllegalArgumentException; open(1, 1, 'b', -7) = 0;
            open(1, 1, 'b', 0) throws UnsupportedOperationException; open(1, 1, 'i', 5)
            throws IllegalArgumentException; open(1, 2, 'i', 8) = 1; open(1, 3, 's', 1) = 2; phaseOf(0) = -1;
            phaseOf(1) = 0; phaseOf(2) = 0; close(1) = 0; close(0) = 0; open(1, 2, 's', 4) = 0; open(1, 1, 'i', 2) = 1;
            draw(1, 9) = 1; frame() = 0; close(2) = 0; open(1, 3, 'b', 0) throws UnsupportedOperationException;
            reserved(0, -1) = 10.
            """);
    }

    private static void openTwelve() {
        StringBuilder text = new StringBuilder();
        for (int device = 1; device <= 4; device++) {
            text.append(Setup.device(device, 'h', device - 1, 8, -8, 8));
        }
        text.append("unplug(4) = 1; make('h', 2, 1, true, 0) = 5; plug(5, 0, 3) = 1; look() = 5; plug(4, 5, 0) = 2; "
            + "look() = 4; make('h', 0, 1, false, 0) = 6; endpoint(6, 1, true, 8) = 1; plug(6, 5, 1) = 2; "
            + "look() = 6; ");
        for (int pipe = 0; pipe < 12; pipe++) {
            text.append("open(").append(pipe / 3 + 1).append(", ").append(pipe % 3 + 1).append(", 'b', 0) = ")
                .append(pipe).append("; ");
        }
        Script.run("23 open, twelve", text + """
            open(6, 1, 'b', 0) throws IllegalStateException; open(6, 1, 'i', 8) throws IllegalStateException;
            open(4, 1, 'b', 0) throws UnsupportedOperationException; open(6, 1, 'i', 3)
            throws IllegalArgumentException; close(7) = 0; close(3) = 0; open(6, 1, 'i', 8) = 3; reserved(0, -1) = 10;
            phaseOf(3) = 0; phaseOf(7) throws NoSuchElementException.
            """);
    }

    private static void close() {
        Script.run("24 close", Setup.device(1, 'h', 0, 8, -8, 1) + "open(1, 1, 'i', 1) = 0; open(1, 2, 'b', 0) = 1; "
            + Setup.ask(0, 3) + """
            ask(0, 2) = 2; ask(0, 1) = 3; close(2) throws NoSuchElementException; close(12)
            throws NoSuchElementException; close(-1) throws NoSuchElementException; reserved(3, -1) = 10;
            close(0) = 3; reserved(3, -1) = 0; close(0) throws NoSuchElementException;
            phaseOf(0) throws NoSuchElementException; events() = 3;
            """ + Setup.event('x', 0, 0) + """
            close(1) = 0; events() = 2; open(1, 1, 'b', 0) = 0; close(0) = 0; meanBytes() = 0.0.
            """);
    }

    private static void phases() {
        Script.run("25 phaseOf", Setup.device(1, 'h', 0, 8, -1, 1) + Setup.device(2, 'h', 1, 1, -1, -8) + """
            open(1, 1, 'i', 8) = 0; phaseOf(0) = 0; open(1, 2, 's', 8) = 1; phaseOf(1) = 1; open(1, 3, 'i', 8) = 2;
            phaseOf(2) = 1; open(2, 1, 'i', 8) = 3; phaseOf(3) = 1; open(2, 2, 'i', 8) = 4; phaseOf(4) = 2;
            reserved(0, -1) = 10; reserved(1, -1) = 9; reserved(2, -1) = 3; reserved(3, -1) = 0;
            open(2, 3, 'i', 4) = 5; phaseOf(5) = 3; reserved(3, -1) = 10; reserved(7, -1) = 10; reserved(6, -1) = 0;
            phaseOf(6) throws NoSuchElementException; phaseOf(-1) throws NoSuchElementException;
            phaseOf(12) throws NoSuchElementException.
            """);
        Script.run("25 phaseOf, intervals", Setup.device(1, 'h', 0, 8, 8, 8) + Setup.device(2, 'h', 1, 8, 8, 8) + """
            open(1, 1, 'i', 2) = 0; phaseOf(0) = 0; open(1, 2, 'i', 2) = 1; phaseOf(1) = 1; open(1, 3, 'i', 4) = 2;
            phaseOf(2) = 0; open(2, 1, 'i', 4) = 3; phaseOf(3) = 1; open(2, 2, 'i', 4) = 4; phaseOf(4) = 2;
            open(2, 3, 'i', 1) = 5; phaseOf(5) = 0; reserved(0, -1) = 30; reserved(1, -1) = 30; reserved(2, -1) = 30;
            reserved(3, -1) = 20; reserved(7, -1) = 20; close(0) = 0; reserved(0, -1) = 20; open(1, 1, 'i', 2) = 0;
            phaseOf(0) = 0; reserved(8, -1) throws IllegalArgumentException; reserved(-1, -1)
            throws IllegalArgumentException; reserved(8, 99) throws IllegalArgumentException; reserved(0, 3)
            throws IndexOutOfBoundsException; reserved(0, -2) throws IndexOutOfBoundsException; reserved(0, 0) = 0.
            """);
    }

    private static void phasesByTranslator() {
        Script.run("25 phaseOf, the translator's bound", Setup.device(1, 'f', 0, 8, 8, 8)
            + Setup.device(2, 'f', 1, 8, 8, 2) + Setup.device(3, 'h', 2, 8, 8, 8) + """
            open(1, 1, 'i', 2) = 0; phaseOf(0) = 0; open(1, 2, 's', 2) = 1; phaseOf(1) = 1; open(1, 3, 'i', 2) = 2;
            phaseOf(2) = 0; reserved(0, 0) = 40; reserved(1, 0) = 20; reserved(0, -1) = 20; open(3, 1, 'i', 2) = 3;
            phaseOf(3) = 1; open(3, 2, 'i', 2) = 4; phaseOf(4) = 0; open(3, 3, 'i', 2) = 5; phaseOf(5) = 1;
            reserved(0, -1) = 30; reserved(1, -1) = 30; open(2, 1, 'i', 2) = 6; phaseOf(6) = 1; reserved(1, 0) = 40;
            open(2, 2, 's', 8) throws UnsupportedOperationException; open(2, 3, 'i', 1) = 7; reserved(5, 0) = 48;
            reserved(5, 1) = 0; open(2, 2, 'b', 0) = 8; reserved(0, 0) = 48.
            """);
        Script.run("25 phaseOf, the least sum where the translator lets it", Setup.device(1, 'f', 0, 8, 8, 8)
            + Setup.device(2, 'h', 1, 8, 8, 8) + """
            open(2, 1, 'i', 2) = 0; open(2, 2, 'i', 2) = 1; close(0) = 0; phaseOf(1) = 1; open(1, 1, 'i', 2) = 0;
            phaseOf(0) = 0; open(1, 2, 'i', 2) = 2; phaseOf(2) = 0; close(1) = 0; open(2, 3, 'i', 2) = 1;
            phaseOf(1) = 1; open(2, 1, 'i', 2) = 3; phaseOf(3) = 1; open(1, 3, 'i', 2) = 4; phaseOf(4) = 1;
            reserved(0, 0) = 40; reserved(1, 0) = 20; reserved(1, -1) = 30.
            """);
        Script.run("25 phaseOf, low devices", Setup.device(1, 'l', 0, 5, 6, 1) + """
            open(1, 2, 'i', 8) throws UnsupportedOperationException; open(1, 1, 'i', 8) = 0; reserved(0, 0) = 48;
            open(1, 3, 'i', 1) throws UnsupportedOperationException; open(1, 3, 'i', 8) = 1; phaseOf(1) = 1;
            reserved(1, 0) = 16; reserved(1, -1) = 3; reserved(0, -1) = 7.
            """);
    }

    private static void hostBound() {
        Script.run("25 phaseOf, the host's bound", Setup.device(1, 'h', 0, 8, 8, 8) + Setup.device(2, 'h', 1, 8, 8, 8)
            + Setup.device(3, 'h', 2, 8, 8, 1) + """
            open(1, 1, 'i', 1) = 0; open(1, 2, 'i', 1) = 1; open(1, 3, 'i', 1) = 2; open(2, 1, 'i', 1) = 3;
            open(2, 2, 'i', 1) = 4; open(2, 3, 'i', 1) = 5; open(3, 1, 'i', 1) = 6; open(3, 2, 's', 1) = 7;
            reserved(0, -1) = 80; isSound() = true; open(3, 3, 'i', 8) throws UnsupportedOperationException;
            close(2) = 0; open(3, 3, 'i', 1) = 2; reserved(7, -1) = 73; open(1, 3, 'b', 0) = 8.
            """);
        Script.run("25 phaseOf, 81 units", Setup.device(1, 'h', 0, 8, 8, 8) + Setup.device(2, 'h', 1, 8, 8, 8)
            + Setup.device(3, 'h', 2, 8, 6, 1) + """
            open(1, 1, 'i', 1) = 0; open(1, 2, 'i', 1) = 1; open(1, 3, 'i', 1) = 2; open(2, 1, 'i', 1) = 3;
            open(2, 2, 'i', 1) = 4; open(2, 3, 'i', 1) = 5; open(3, 1, 'i', 1) = 6; open(3, 2, 's', 2) = 7;
            reserved(0, -1) = 78; reserved(1, -1) = 70; open(3, 3, 'i', 1) throws UnsupportedOperationException;
            open(3, 3, 'i', 2) = 8; phaseOf(8) = 1.
            """);
    }

    private static void reservedOfTranslators() {
        Script.run("26 reserved", """
            make('h', 2, 1, true, 0) = 1; make('f', 0, 1, false, 0) = 2; make('l', 0, 1, false, 0) = 3;
            endpoint(2, 1, true, 4) = 1; endpoint(3, 1, false, 2) = 1; plug(1, 0, 0) = 1; plug(2, 1, 0) = 2;
            plug(3, 0, 1) = 1; look() = 1; look() = 3; look() = 2; open(2, 1, 'i', 2) = 0; open(3, 1, 's', 1) = 1;
            reserved(0, 1) = 12; reserved(1, 1) = 0; reserved(2, 1) = 12; reserved(0, 0) = 24; reserved(1, 0) = 24;
            reserved(0, -1) = 10; reserved(1, -1) = 4; reserved(0, 2) = 0; draw(2, 9) = 1; frame() = 0;
            stateOf(2) = 's'; reserved(0, 1) = 12; unplug(2) = 1; reserved(0, 1) = 0; reserved(0, -1) = 4.
            """);
    }

    private static void send() {
        Script.run("27 send", Setup.device(1, 'h', 0, 8, -8) + """
            open(1, 1, 'b', 0) = 0; open(1, 2, 'b', 0) = 1; send(2) throws NoSuchElementException;
            send(-1) throws NoSuchElementException; send(12) throws NoSuchElementException;
            send(1) throws UnsupportedOperationException; type(1) = 1; send(0) throws UnsupportedOperationException;
            send(1) = 1; wipe() = 0; type(1) = 1; send(1) = 2; type(1) = 1; send(1) = 3; type(1) = 1; send(1) = 4;
            send(1) throws UnsupportedOperationException; type(9) = 1; send(1) throws IllegalStateException;
            wipe() = 1; cancel(1) = 0; type(9) = 1; send(1) = 4.
            """);
    }

    private static void ask() {
        Script.run("28 ask", Setup.device(1, 'h', 0, 8, -8) + """
            open(1, 1, 'i', 1) = 0; open(1, 2, 'b', 0) = 1; ask(2, 1) throws NoSuchElementException;
            ask(2, 0) throws NoSuchElementException; ask(0, 0) throws IllegalArgumentException;
            ask(0, 17) throws IllegalArgumentException; ask(1, 0) throws IllegalArgumentException;
            ask(1, 1) throws UnsupportedOperationException; ask(0, 1) = 1; ask(0, 16) = 2; ask(0, 1) = 3;
            ask(0, 1) = 4; ask(0, 1) throws IllegalStateException; ask(0, 17) throws IllegalArgumentException;
            cancel(0) = 0; ask(0, 1) = 4.
            """);
    }

    private static void ring() {
        Script.run("29 ring", Setup.device(1, 'h', 0, 8, -8) + """
            open(1, 2, 'b', 0) = 0; ring(1) throws NoSuchElementException; ring(-1) throws NoSuchElementException;
            ring(0) = 0; type(1) = 1; send(0) = 1; frame() = 0; ring(0) = 1; ring(0) = 0; type(2) = 1; send(0) = 2;
            type(3) = 1; send(0) = 3; frame() = 1; taken(1, 2) = 1; event() = 'd'; events() = 0; frame() = 0;
            ring(0) = 2; type(4) = 1; send(0) = 3; frame() = 2; taken(1, 2) = 3; frame() = 0; ring(0) = 1;
            cancel(0) = 0; ring(0) = 0.
            """);
    }

    private static void halted() {
        Script.run("30 isHalted and 50 causeOf", Setup.device(1, 'h', 0, 8, -8) + """
            open(1, 2, 'b', 0) = 0; isHalted(1) throws NoSuchElementException; isHalted(-1)
            throws NoSuchElementException; causeOf(1) throws NoSuchElementException; isHalted(0) = false;
            causeOf(0) throws UnsupportedOperationException; fault(1, 2, 's', 1) = 0;
            """ + Setup.send(0, 7) + """
            type(8) = 1; send(0) = 2; ring(0) = 1; frame() = 1; isHalted(0) = true; causeOf(0) = 's';
            """ + Setup.event('s', 0, 0) + """
            frame() = 0; ring(0) = 0; type(9) = 1; send(0) = 2; ring(0) = 1; frame() = 0; clear(0) = 2;
            isHalted(0) = false; causeOf(0) = 's'; frame() = 2; taken(1, 2) = 2; close(0) = 0;
            open(1, 2, 'b', 0) = 0; causeOf(0) throws UnsupportedOperationException; isHalted(0) = false.
            """);
        for (char kind : new char[] {'c', 'd', 'a', 'b', 't'}) {
            Script.run("50 causeOf, out by " + kind, Setup.device(1, 'h', 0, 8, -8) + "open(1, 2, 'b', 0) = 0; "
                + "fault(1, 2, '" + kind + "', 3) = 0; " + Setup.send(0, 7) + "frame() = 1; frame() = 1; "
                + "isHalted(0) = false; frame() = 1; isHalted(0) = true; causeOf(0) = '" + kind + "'; "
                + Setup.event('e', 0, 0) + "stateOf(1) = 'c'; blame(1) = 0; frame() = 0");
        }
        for (char kind : new char[] {'c', 'd'}) {
            Script.run("50 causeOf, in by " + kind, Setup.device(1, 'h', 0, 8, -8) + "open(1, 1, 'i', 1) = 0; "
                + Setup.load(1, 1, 1, 5) + "fault(1, 1, '" + kind + "', 3) = 0; " + Setup.ask(0, 1)
                + "frame() = 1; frame() = 1; isHalted(0) = false; frame() = 1; isHalted(0) = true; causeOf(0) = '"
                + kind + "'; " + Setup.event('e', 0, 0) + "frame() = 0; waiting(1, 1) = 1; got() = 0");
        }
        Script.run("50 causeOf, the third failure's", Setup.device(1, 'h', 0, 8, -8) + "open(1, 2, 'b', 0) = 0; "
            + "fault(1, 2, 'c', 2) = 0; " + Setup.send(0, 7) + "frame() = 1; frame() = 1; fault(1, 2, 'd', 1) = 0; "
            + "frame() = 1; causeOf(0) = 'd'; taken(1, 2) = 1; clear(0) = 0; fault(1, 2, 's', 1) = 0; "
            + "type(3) = 1; send(0) = 1; ring(0) = 1; frame() = 1; causeOf(0) = 's'");
    }

    private static void clear() {
        Script.run("31 clear", Setup.device(1, 'h', 0, 8, -8) + """
            open(1, 2, 'b', 0) = 0; open(1, 1, 'b', 0) = 1; clear(2) throws NoSuchElementException;
            clear(-1) throws NoSuchElementException; clear(0) = 0;
            """ + Setup.send(0, 1) + """
            frame() = 1; fault(1, 2, 'd', 1) = 0; type(2) = 1; send(0) = 1; ring(0) = 1; frame() = 1; taken(1, 2) = 2;
            clear(0) = 1; frame() = 1; taken(1, 2) = 3; event() = 'd'; event() = 'd'; events() = 0;
            """ + Setup.load(1, 1, 3, 4, 5, 6) + "fault(1, 1, 'a', 1) = 0; " + Setup.ask(1, 3) + """
            frame() = 1; got() = 3; waiting(1, 1) = 3; event() = 'd'; clear(1) = 0; ask(1, 2) = 1; ring(1) = 1;
            frame() = 1; got() = 5; gotAt(0) = 5; waiting(1, 1) = 1; event() = 'd'; eventBytes() = 2.
            """);
        Script.run("31 clear, toggles", Setup.device(1, 'h', 0, 8, -8) + "open(1, 2, 'b', 0) = 0; "
            + Setup.send(0, 1) + "frame() = 1; taken(1, 2) = 1; clear(0) = 0; " + Setup.send(0, 2)
            + "frame() = 1; taken(1, 2) = 2; clear(0) = 0; " + Setup.send(0, 3) + Setup.type(4)
            + "send(0) = 2; ring(0) = 1; frame() = 2; taken(1, 2) = 4");
        Script.run("23 open, toggles", Setup.device(1, 'h', 0, 8, -8) + "open(1, 2, 'b', 0) = 0; "
            + Setup.send(0, 1) + "frame() = 1; taken(1, 2) = 1; close(0) = 0; open(1, 2, 'i', 1) = 0; "
            + Setup.send(0, 2) + "frame() = 1; taken(1, 2) = 2; close(0) = 0; open(1, 2, 'b', 0) = 0; "
            + Setup.send(0, 3) + "frame() = 1; taken(1, 2) = 3");
        Script.run("31 clear, a new row of failures", Setup.device(1, 'h', 0, 8, -8) + "open(1, 2, 'b', 0) = 0; "
            + "fault(1, 2, 'c', 5) = 0; " + Setup.send(0, 1) + "frame() = 1; frame() = 1; frame() = 1; "
            + "event() = 'e'; clear(0) = 0; " + Setup.send(0, 1) + "frame() = 1; frame() = 1; events() = 0; "
            + "isHalted(0) = false; frame() = 1; event() = 'd'");
        Script.run("23 open, a packet that was not acknowledged is forgotten", Setup.device(1, 'h', 0, 8)
            + "open(1, 1, 'b', 0) = 0; " + Setup.load(1, 1, 3, 4, 5, 6) + "fault(1, 1, 'd', 1) = 0; "
            + Setup.ask(0, 3) + "frame() = 1; got() = 0; close(0) = 1; open(1, 1, 'b', 0) = 0; " + Setup.ask(0, 2)
            + "frame() = 1; got() = 2; waiting(1, 1) = 1; " + Setup.event('x', 0, 0) + Setup.event('d', 0, 2));
    }

    private static void cancel() {
        Script.run("32 cancel", Setup.device(1, 'h', 0, 8, -8, -2) + """
            open(1, 3, 'i', 1) = 0; cancel(1) throws NoSuchElementException; cancel(-1) throws NoSuchElementException;
            cancel(0) throws UnsupportedOperationException;
            """ + Setup.send(0, 1, 2, 3, 4, 5) + """
            type(6) = 1; send(0) = 2; ring(0) = 1; frame() = 1; frame() = 1; cancel(0) = 4;
            """ + Setup.event('x', 0, 4) + """
            frame() = 1; taken(1, 3) = 5; takenAt(1, 3, 0) = 6;
            """ + Setup.event('d', 0, 1) + """
            cancel(0) throws UnsupportedOperationException; fault(1, 3, 's', 1) = 0;
            """ + Setup.send(0, 1) + """
            type(6) = 1; send(0) = 2; frame() = 1; isHalted(0) = true; cancel(0) = 0; isHalted(0) = true.
            """);
        Script.run("32 cancel, the next packet is taken for the same again", Setup.device(1, 'h', 0, 8, -8, -2)
            + "open(1, 2, 'b', 0) = 0; fault(1, 2, 'd', 1) = 0; " + Setup.send(0, 1, 2) + "frame() = 1; "
            + "taken(1, 2) = 2; cancel(0) = 0; event() = 'x'; " + Setup.send(0, 3, 4, 5) + "frame() = 1; "
            + Setup.event('d', 0, 3) + "taken(1, 2) = 2; takenAt(1, 2, 0) = 2; " + Setup.send(0, 6)
            + "frame() = 1; taken(1, 2) = 3; takenAt(1, 2, 0) = 6");
    }

    private static void load() {
        Script.run("33 load and 45 waiting", Setup.device(1, 'h', 0, 8, -8) + """
            load(1, 1) = 0; load(2, 1) throws IndexOutOfBoundsException; load(-1, 1)
            throws IndexOutOfBoundsException; load(1, 3) throws IndexOutOfBoundsException; load(1, 0)
            throws IndexOutOfBoundsException; load(1, 4) throws IndexOutOfBoundsException; load(0, 1)
            throws IndexOutOfBoundsException; load(1, 2) throws UnsupportedOperationException;
            """ + Setup.load(1, 1, 16, 1, 2, 3, 4, 5, 6, 7, 8, 9, 10, 11, 12, 13, 14, 15, 16)
            + Setup.load(1, 1, 31, 1, 2, 3, 4, 5, 6, 7, 8, 9, 10, 11, 12, 13, 14, 15) + """
            wipe() = 0; type(1) = 1; type(2) = 2; load(1, 1) throws IllegalStateException; wipe() = 2;
            type(1) = 1; load(1, 1) = 32; load(1, 1) = 32; type(1) = 1; load(1, 1) throws IllegalStateException;
            waiting(1, 1) = 32; waiting(1, 2) throws UnsupportedOperationException; waiting(1, 3)
            throws IndexOutOfBoundsException; waiting(2, 1) throws IndexOutOfBoundsException; waiting(-1, 1)
            throws IndexOutOfBoundsException; waiting(1, 0) throws IndexOutOfBoundsException.
            """);
        Script.run("33 load, unplugged", """
            make('h', 0, 1, false, 0) = 1; endpoint(1, 2, true, 2) = 1; type(7) = 1; load(1, 2) = 1; wipe() = 0.
            """);
    }

    private static void fault() {
        Script.run("34 fault", Setup.device(1, 'h', 0, 8, -8) + """
            fault(0, 0, 'c', 1) throws IndexOutOfBoundsException; fault(2, 0, 'c', 1)
            throws IndexOutOfBoundsException; fault(-1, 0, 'c', 1) throws IndexOutOfBoundsException;
            fault(1, 3, 'c', 1) throws IndexOutOfBoundsException; fault(1, -1, 'c', 1)
            throws IndexOutOfBoundsException; fault(1, 4, 'q', 0) throws IndexOutOfBoundsException;
            fault(1, 1, 'q', 1) throws IllegalArgumentException; fault(1, 1, 'c', 0)
            throws IllegalArgumentException; fault(1, 1, 'c', 10) throws IllegalArgumentException;
            fault(1, 1, ' ', 1) throws IllegalArgumentException; fault(1, 0, 'c', 9) = 0; fault(1, 0, 'd', 1) = 9;
            fault(1, 1, 'a', 2) = 0; fault(1, 2, 'n', 3) = 0; fault(1, 1, 's', 4) = 2; fault(1, 2, 'b', 5) = 3;
            fault(1, 2, 't', 6) = 5; fault(1, 1, 'c', 9) = 4; open(1, 2, 'b', 0) = 0;
            """ + Setup.send(0, 1) + "frame() = 1; frame() = 1; fault(1, 2, 'n', 1) = 4; frame() = 1; "
            + "fault(1, 2, 'c', 1) = 0");
    }
}
