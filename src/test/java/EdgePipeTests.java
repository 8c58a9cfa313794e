/** Promises 23 to 34, 45 and 50, and the terms on pipes: each sentence that names a bound or a refused call. */
final class EdgePipeTests {
    private static final String[] OF_A_PIPE = {"close(%s)", "phaseOf(%s)", "send(%s)", "ask(%s, 1)", "ask(%s, 0)",
        "ask(%s, 17)", "ring(%s)", "isHalted(%s)", "clear(%s)", "cancel(%s)", "causeOf(%s)"};

    private EdgePipeTests() {
    }

    static void run() {
        whatIsOpened();
        kinds();
        intervals();
        openInEachState();
        twoExceptionsOfOpen();
        twelvePipes();
        lowestFreeNumbers();
        noSuchPipe();
        close();
        costs();
        hostBound();
        translatorBound();
        firstPhase();
        reserved();
        fourTransfersOut();
        fourTransfersIn();
        bytesAskedFor();
        doorbell();
        cancel();
        thirtyTwoWaiting();
        loadWhere();
        numbersOfFault();
        causes();
    }

    /** Four high devices in the host's hub, each with three endpoints of 8 bytes. */
    private static String four() {
        StringBuilder text = new StringBuilder();
        for (int device = 1; device <= 4; device++) {
            text.append(Setup.device(device, 'h', device - 1, 8, -8, 8));
        }
        return text.toString();
    }

    /** Opens bulk pipes from least to most, three for each of the devices from 1 on. */
    private static String opened(int least, int most) {
        StringBuilder text = new StringBuilder();
        for (int pipe = least; pipe <= most; pipe++) {
            text.append("open(").append(pipe / 3 + 1).append(", ").append(pipe % 3 + 1).append(", 'b', 0) = ")
                .append(pipe).append("; ");
        }
        return text.toString();
    }

    private static void whatIsOpened() {
        Script.run("23 open: the device and the endpoint", Setup.device(1, 'h', 0, 8, 0, -8) + Setup.device(2, 'h', 1)
            + Edge.index("open(%s, 1, 'b', 0)", 0, 2) + Edge.index("open(1, %s, 'b', 0)", 1, 3)
            + Edge.badIndex("open(1, 2, 'b', 0)", "open(2, 1, 'b', 0)", "open(2, 3, 'i', 1)", "open(0, 1, 'b', 0)",
                "open(0, 0, 'b', 0)")
            + "open(1, 1, 'b', 0) = 0; open(1, 3, 'b', 0) = 1; "
            + Edge.unsupported("open(1, 1, 'b', 0)", "open(1, 1, 'i', 1)", "open(1, 3, 's', 8)")
            + "close(0) = 0; open(1, 1, 's', 8) = 0; " + Edge.unsupported("open(1, 1, 'b', 0)"));
    }

    private static void kinds() {
        Script.run("23 open: b, i or s", Setup.device(1, 'h', 0, 8, -8, 1)
            + Edge.forSigns("acehjrtuzBIS1 \u0000\uffff", "open(1, 1, '%s', 1) throws IllegalArgumentException; ")
            + "open(1, 1, 'b', 1) = 0; open(1, 2, 'i', 1) = 1; open(1, 3, 's', 1) = 2");
    }

    private static void intervals() {
        for (char kind : new char[] {'i', 's'}) {
            StringBuilder text = new StringBuilder(Setup.device(1, 'h', 0, 8));
            for (int interval = -9; interval <= 33; interval++) {
                String call = "open(1, 1, '" + kind + "', " + interval + ")";
                boolean isFine = interval == 1 || interval == 2 || interval == 4 || interval == 8;
                text.append(isFine ? call + " = 0; close(0) = 0; " : Edge.badArgument(call));
            }
            String call = "open(1, 1, '" + kind + "', %s)";
            Script.run("23 open: an interval of 1, 2, 4 or 8, " + kind, text + Edge.argument(call, 1, 8));
        }
        Script.run("23 open: an interval of no meaning for b", Setup.device(1, 'h', 0, 8)
            + Edge.forNumbers(-9, 33, "open(1, 1, 'b', %s) = 0; phaseOf(0) = -1; close(0) = 0; ")
            + "open(1, 1, 'b', -2147483648) = 0; close(0) = 0; open(1, 1, 'b', 2147483647) = 0; reserved(0, -1) = 0");
    }

    private static void openInEachState() {
        Script.run("23 open: the device is configured", Setup.zoo()
            + Edge.forNumbers(2, 7, "open(%s, 1, 'b', 0) throws UnsupportedOperationException; "
                + "open(%s, 2, 'i', 8) throws UnsupportedOperationException; ")
            + "open(1, 1, 'b', 0) = 0; open(1, 2, 'i', 8) = 1; wake(6) = 1; open(6, 1, 's', 8) = 2; look() = 3; "
            + "open(3, 1, 'b', 0) = 3");
    }

    private static void twoExceptionsOfOpen() {
        Script.run("23 open: two exceptions at once", Setup.zoo() + "open(1, 1, 'b', 0) = 0; "
            + Edge.badIndex("open(8, 1, 'q', 0)", "open(-1, 1, 'i', 3)", "open(1, 3, 'q', 0)", "open(1, 0, 'i', 0)",
                "open(7, 3, 'b', 0)", "open(7, 4, 's', 0)")
            + Edge.badArgument("open(1, 1, 'q', 0)", "open(1, 1, 'i', 0)", "open(1, 1, 's', 3)", "open(2, 1, 'q', 1)",
                "open(7, 1, 'i', 9)", "open(6, 2, 's', -1)"));
    }

    private static void twelvePipes() {
        String more = "unplug(4) = 1; make('h', 3, 1, true, 0) = 5; plug(5, 0, 3) = 1; look() = 5; plug(4, 5, 0) = 2; "
            + "look() = 4; make('h', 0, 1, false, 0) = 6; endpoint(6, 1, true, 1) = 1; plug(6, 5, 1) = 2; look() = 6; "
            + "make('l', 0, 1, false, 0) = 7; endpoint(7, 1, true, 6) = 1; plug(7, 5, 2) = 2; look() = 7; "
            + "make('h', 0, 1, false, 0) = 8; endpoint(8, 1, true, 1) = 1; ";
        Script.run("23 open: at most 12, and two exceptions at once", four() + more + opened(0, 10)
            + "open(6, 1, 'b', 0) = 11; " + Edge.badState("open(4, 3, 'b', 0)", "open(4, 3, 'i', 8)",
            "open(4, 3, 's', 1)",
                "open(7, 1, 'b', 0)")
            + Edge.unsupported("open(6, 1, 'b', 0)", "open(7, 1, 'i', 8)", "open(8, 1, 'b', 0)", "open(1, 1, 's', 2)")
            + Edge.badArgument("open(4, 3, 'q', 0)", "open(4, 3, 'i', 0)", "open(7, 1, 's', 16)")
            + Edge.badIndex("open(6, 2, 'b', 0)", "open(9, 1, 'b', 0)")
            + "close(11) = 0; open(4, 3, 'i', 8) = 11; " + Edge.badState("open(6, 1, 'b', 0)")
            + "close(0) = 0; open(6, 1, 'b', 0) = 0; " + Edge.badState("open(1, 1, 'b', 0)"));
    }

    private static void lowestFreeNumbers() {
        StringBuilder text = new StringBuilder(four() + opened(0, 11));
        for (int pipe = 0; pipe < 12; pipe++) {
            text.append("close(").append(pipe).append(") = 0; ").append(opened(pipe, pipe));
        }
        Script.run("23 open: the lowest free number", text + "close(11) = 0; close(0) = 0; close(5) = 0; "
            + "open(4, 3, 'b', 0) = 0; open(1, 1, 'i', 1) = 5; open(2, 3, 's', 1) = 11; unplug(2) = 1; "
            + "plug(2, 0, 1) = 1; look() = 2; open(2, 1, 'b', 0) = 3; open(2, 2, 'b', 0) = 4; open(2, 3, 'b', 0) = 11");
    }

    private static void noSuchPipe() {
        StringBuilder none = new StringBuilder(four());
        StringBuilder twelve = new StringBuilder(four() + opened(0, 11));
        for (String call : OF_A_PIPE) {
            none.append(Edge.element(call, 0, -1)).append(Edge.noElement(call.replace("%s", "11")));
            twelve.append(Edge.element(call, 0, 11));
        }
        Script.run("24 to 32 and 50: no pipe is open", none.toString());
        Script.run("24 to 32 and 50: the pipes 0 to 11", twelve + Edge.forNumbers(0, 11,
            "phaseOf(%s) = -1; isHalted(%s) = false; ring(%s) = 0; clear(%s) = 0; "
            + "causeOf(%s) throws UnsupportedOperationException; cancel(%s) throws UnsupportedOperationException; "
            + "close(%s) = 0; phaseOf(%s) throws NoSuchElementException; "));
        StringBuilder one = new StringBuilder(four() + opened(0, 2) + "close(1) = 0; ");
        for (String call : OF_A_PIPE) {
            one.append(Edge.noElement(call.replace("%s", "1"), call.replace("%s", "3")));
        }
        Script.run("24 to 32 and 50: a pipe that was closed", one + "phaseOf(0) = -1; phaseOf(2) = -1");
    }

    private static void close() {
        String asked = "ask(0, 1) = 1; ask(0, 2) = 2; ask(0, 3) = 3; ask(0, 4) = 4; ";
        Script.run("24 close: 0 to 4 transfers, each over by 'x'", Setup.device(1, 'h', 0, 8, -8)
            + "open(1, 1, 'i', 1) = 0; close(0) = 0; events() = 0; meanBytes() throws ArithmeticException; "
            + "reserved(0, -1) = 0; open(1, 1, 'b', 0) = 0; " + asked + "close(0) = 4; events() = 4; close(0) "
            + "throws NoSuchElementException; open(1, 1, 's', 1) = 0; " + asked + "ring(0) = 4; close(0) = 4; "
            + "events() = 6; missed() = 2; meanBytes() = 0.0; " + Edge.forNumbers(1, 6, Setup.event('x', 0, 0))
            + Edge.noElement("event()"));
        Script.run("24 close: a halted pipe, and bytes that were done", Setup.device(1, 'h', 0, 8, -4)
            + "open(1, 2, 'b', 0) = 0; " + Setup.send(0, 1, 2, 3, 4, 5) + "type(6) = 1; send(0) = 2; "
            + "fault(1, 2, 's', 1) = 0; frame() = 1; isHalted(0) = true; close(0) = 1; events() = 2; "
            + Setup.event('s', 0, 0) + Setup.event('x', 0, 0) + "open(1, 2, 'i', 1) = 0; isHalted(0) = false; "
            + Setup.send(0, 1, 2, 3, 4, 5) + "frame() = 1; close(0) = 1; " + Setup.event('x', 0, 4));
    }

    private static void costs() {
        for (char speed : new char[] {'l', 'f', 'h'}) {
            for (int bytes = 1; bytes <= 8; bytes++) {
                int hub = speed == 'h' ? 0 : speed == 'f' ? 4 + 2 * bytes : 8 + 8 * bytes;
                String start = Setup.device(1, speed, 0, bytes, -bytes);
                Script.run("26 reserved: what " + bytes + " bytes cost, " + speed, start + (hub > 48
                    ? Edge.unsupported("open(1, 1, 'i', 1)", "open(1, 2, 's', 8)") + "reserved(0, 0) = 0"
                    : "open(1, 1, 'i', 1) = 0; reserved(0, -1) = " + (2 + bytes) + "; reserved(7, 0) = " + hub
                        + "; close(0) = 0; open(1, 2, 's', 8) = 0; reserved(0, -1) = " + (2 + bytes)
                        + "; reserved(0, 0) = " + hub + "; reserved(1, 0) = 0"));
                Script.run("35 frame: what " + bytes + " bytes cost, " + speed, start + "open(1, 2, 'b', 0) = 0; "
                    + Setup.type(new int[bytes]) + "send(0) = 1; ring(0) = 1; frame() = " + (hub > 60 ? 0 : 1)
                    + "; left(-1) = " + (hub > 60 ? 100 : 98 - bytes) + "; left(0) = " + (hub > 60 ? 60 : 60 - hub));
            }
        }
    }

    private static void hostBound() {
        for (int greatest = 1; greatest <= 8; greatest++) {
            StringBuilder text = new StringBuilder();
            for (int device = 1; device <= 3; device++) {
                text.append(Setup.device(device, 'h', device - 1, 8, 8, device == 3 ? greatest : 8));
            }
            for (int pipe = 0; pipe < 7; pipe++) {
                text.append("open(").append(pipe / 3 + 1).append(", ").append(pipe % 3 + 1).append(", 'i', 1) = ")
                    .append(pipe).append("; ");
            }
            Script.run("25 phaseOf: at most 80 reserved units of the host, " + greatest, text
                + "unplug(3) = 1; make('h', 0, 1, false, 0) = 4; endpoint(4, 1, true, 8) = 1; "
                + "endpoint(4, 2, true, 6) = 2; "
                + "endpoint(4, 3, false, " + greatest + ") = 3; plug(4, 0, 2) = 1; look() = 4; open(4, 1, 'i', 1) = 6; "
                + "reserved(3, -1) = 70; open(4, 2, 'i', 8) = 7; reserved(0, -1) = 78; open(4, 3, 's', 1) "
                + "throws UnsupportedOperationException; close(7) = 0; open(4, 3, 's', 1) = 7; reserved(7, -1) = "
                + (72 + greatest) + "; "
                + (greatest == 8 ? Edge.unsupported("open(4, 2, 'i', 8)") : "isSound() = true"));
        }
    }

    private static void translatorBound() {
        for (int greatest = 1; greatest <= 8; greatest++) {
            boolean isFit = 40 + 4 + 2 * greatest <= 48;
            Script.run("25 phaseOf: at most 48 reserved units of the translator, " + greatest,
                Setup.device(1, 'f', 0, 8, 8, greatest) + """
                open(1, 1, 'i', 1) = 0; open(1, 2, 's', 1) = 1; reserved(4, 0) = 40;
                """ + (isFit ? "open(1, 3, 'i', 8) = 2; phaseOf(2) = 0; reserved(0, 0) = " + (44 + 2 * greatest)
                    : "open(1, 3, 'i', 8) throws UnsupportedOperationException; open(1, 3, 'b', 0) = 2"));
        }
        Script.run("25 phaseOf: each translator has units of its own", """
            make('h', 2, 1, true, 0) = 1; plug(1, 0, 0) = 1; look() = 1; make('l', 0, 1, false, 0) = 2;
            endpoint(2, 1, true, 5) = 1; make('l', 0, 1, false, 0) = 3; endpoint(3, 1, true, 5) = 1;
            endpoint(3, 2, true, 1) = 2; plug(2, 0, 1) = 1; plug(3, 1, 0) = 2; look() = 2; look() = 3;
            open(2, 1, 'i', 1) = 0; open(3, 1, 'i', 1) = 1; reserved(0, 0) = 48; reserved(0, 1) = 48;
            open(3, 2, 'i', 8) throws UnsupportedOperationException; reserved(0, 2) = 0; reserved(0, 3) = 0;
            close(0) = 0; open(3, 2, 'i', 8) throws UnsupportedOperationException; close(1) = 0;
            open(3, 2, 'i', 8) = 0; reserved(0, 1) = 16; reserved(0, 0) = 0.
            """);
    }

    // Pipes that cost the same fill one phase after another: the greatest sum grows least where none is yet.
    private static void firstPhase() {
        for (int interval = 1; interval <= 8; interval *= 2) {
            StringBuilder text = new StringBuilder();
            for (int device = 1; device <= 3; device++) {
                text.append(Setup.device(device, 'h', device - 1, 1, 1, 1));
            }
            for (int pipe = 0; pipe < 9; pipe++) {
                text.append("open(").append(pipe / 3 + 1).append(", ").append(pipe % 3 + 1).append(", 'i', ")
                    .append(interval).append(") = ").append(pipe).append("; phaseOf(").append(pipe).append(") = ")
                    .append(pipe % interval).append("; ");
            }
            Script.run("25 phaseOf: the first one of the least, interval " + interval, text.toString());
        }
    }

    private static void reserved() {
        Script.run("26 reserved: frames 0 to 7, hubs -1 to 2", Setup.device(1, 'f', 0, 8) + Setup.device(2, 'h', 1, 8)
            + "open(1, 1, 'i', 1) = 0; " + Edge.forNumbers(0, 7, "reserved(%s, -1) = 10; reserved(%s, 0) = 20; "
                + "reserved(%s, 1) = 0; reserved(%s, 2) = 0; ")
            + Edge.argument("reserved(%s, -1)", 0, 7) + Edge.argument("reserved(%s, 0)", 0, 7)
            + Edge.index("reserved(0, %s)", -1, 2) + Edge.index("reserved(7, %s)", -1, 2)
            + Edge.argument("reserved(%s, 3)", 0, 7) + Edge.argument("reserved(%s, -2)", 0, 7) + "unplug(1) = 1; "
            + Edge.forNumbers(0, 7, "reserved(%s, -1) = 0; reserved(%s, 0) = 0; "));
    }

    private static void fourTransfersOut() {
        Script.run("27 send: at most 4 in a row, and two exceptions at once", Setup.device(1, 'h', 0, 8, -8)
            + "open(1, 2, 'b', 0) = 0; open(1, 1, 'b', 0) = 1; " + Edge.unsupported("send(0)", "send(1)")
            + Edge.noElement("send(2)", "send(-1)") + "type(0) = 1; " + Edge.noElement("send(2)", "send(12)")
            + Edge.unsupported("send(1)") + "send(0) = 1; " + Edge.unsupported("send(0)")
            + Edge.forNumbers(2, 4, "type(%s) = 1; send(0) = %s; ") + Edge.unsupported("send(0)")
            + "type(5) = 1; " + Edge.badState("send(0)") + Edge.noElement("send(2)") + "ring(0) = 4; "
            + Edge.badState("send(0)") + "ask(1, 1) = 1; ask(1, 1) = 2; ask(1, 1) = 3; ask(1, 1) = 4; "
            + Edge.unsupported("send(1)") + "frame() = 4; send(0) = 1; taken(1, 2) = 4");
        Script.run("27 send: 16 bytes of any value", Setup.device(1, 'h', 0, 8, -8) + "open(1, 2, 'b', 0) = 0; "
            + Setup.send(0, 0, 255, 1, 254, 2, 253, 3, 252, 127, 128, 64, 63, 32, 31, 16, 15) + "frame() = 2; "
            + "takenAt(1, 2, 0) = 15; takenAt(1, 2, 14) = 255; takenAt(1, 2, 15) = 0; takenAt(1, 2, 6) = 128; "
            + Setup.event('d', 0, 16));
    }

    private static void fourTransfersIn() {
        Script.run("28 ask: at most 4 in a row, and two exceptions at once", Setup.device(1, 'h', 0, 8, -8)
            + "open(1, 1, 'b', 0) = 0; open(1, 2, 'b', 0) = 1; " + Edge.forNumbers(1, 4, "ask(0, %s) = %s; ")
            + Edge.badState("ask(0, 1)", "ask(0, 16)") + Edge.argument("ask(0, %s)", 1, 16) + "ring(0) = 4; "
            + Edge.badState("ask(0, 1)") + "cancel(0) = 0; ask(0, 16) = 4; " + Edge.badState("ask(0, 16)")
            + Edge.forNumbers(1, 4, "type(1) = 1; send(1) = %s; ") + Edge.unsupported("ask(1, 1)", "ask(1, 16)")
            + Edge.argument("ask(1, %s)", 1, 16));
    }

    private static void bytesAskedFor() {
        Script.run("28 ask: 1 to 16 bytes", Setup.device(1, 'h', 0, 8, -8) + "open(1, 1, 'b', 0) = 0; "
            + "open(1, 2, 'b', 0) = 1; " + Edge.argument("ask(0, %s)", 1, 16) + Edge.argument("ask(1, %s)", 1, 16)
            + Edge.unsupported("ask(1, 1)", "ask(1, 16)") + Edge.element("ask(2, %s)", 1, 16)
            + Edge.forNumbers(1, 16, "ask(0, %s) = 1; cancel(0) = 0; "));
    }

    private static void doorbell() {
        Script.run("29 ring: 0 to 4 that wait, each once", Setup.device(1, 'h', 0, 8, -8) + "open(1, 2, 'b', 0) = 0; "
            + "ring(0) = 0; type(1) = 1; send(0) = 1; frame() = 0; frame() = 0; ring(0) = 1; ring(0) = 0; frame() = 1; "
            + "ring(0) = 0; " + Edge.forNumbers(1, 4, "type(%s) = 1; send(0) = %s; ") + "frame() = 0; ring(0) = 4; "
            + "ring(0) = 0; frame() = 4; taken(1, 2) = 5; " + Edge.forNumbers(1, 3, "type(%s) = 1; send(0) = %s; ")
            + "ring(0) = 3; type(4) = 1; send(0) = 4; frame() = 3; frame() = 0; taken(1, 2) = 8; ring(0) = 1; "
            + "frame() = 1; events() = 6; missed() = 3");
        Script.run("29 ring: in a halted pipe, asleep and shut", Setup.device(1, 'h', 0, 8, -8)
            + "open(1, 2, 'b', 0) = 0; fault(1, 2, 's', 1) = 0; " + Setup.send(0, 1) + "frame() = 1; "
            + Setup.send(0, 2) + "frame() = 0; cancel(0) = 0; clear(0) = 0; sleep(1) = 1; " + Setup.send(0, 3)
            + "frame() = 0; wake(1) = 1; frame() = 0; frame() = 1; taken(1, 2) = 1; takenAt(1, 2, 0) = 3");
    }

    private static void cancel() {
        Script.run("32 cancel: the first one, while there is one", Setup.device(1, 'h', 0, 8, -1)
            + "open(1, 2, 'i', 1) = 0; " + Edge.unsupported("cancel(0)") + Edge.noElement("cancel(1)", "cancel(-1)")
            + Setup.send(0, 1, 2, 3) + "type(4) = 1; type(5) = 2; send(0) = 2; frame() = 1; frame() = 1; "
            + "cancel(0) = 2; "
            + Setup.event('x', 0, 2) + "frame() = 0; ring(0) = 1; frame() = 1; takenAt(1, 2, 0) = 4; cancel(0) = 1; "
            + Setup.event('x', 0, 1) + Edge.unsupported("cancel(0)") + "events() = 0; frame() = 0; taken(1, 2) = 3");
        Script.run("32 cancel: no more than the first of 4", Setup.device(1, 'h', 0, 8, -8) + "open(1, 1, 'b', 0) = 0; "
            + Edge.forNumbers(1, 4, "ask(0, %s) = %s; ") + "cancel(0) = 0; events() = 1; clear(0) = 3; cancel(0) = 0; "
            + "cancel(0) = 0; clear(0) = 1; cancel(0) = 0; " + Edge.unsupported("cancel(0)") + "events() = 4; "
            + "clear(0) = 0");
    }

    private static void thirtyTwoWaiting() {
        for (int more = 0; more <= 16; more++) {
            String start = Setup.device(1, 'h', 0, 8) + Edge.typed(16) + "load(1, 1) = 16; "
                + (more == 0 ? "" : Edge.typed(more) + "load(1, 1) = " + (16 + more) + "; ");
            int room = 16 - more;
            Script.run("33 load: at most 32 wait, " + (16 + more) + " do", start + (room == 16 ? ""
                : Edge.typed(room + 1) + Edge.badState("load(1, 1)") + "wipe() = " + (room + 1) + "; ")
                + Edge.typed(room) + "load(1, 1) = 32; waiting(1, 1) = 32; load(1, 1) = 32; type(1) = 1; "
                + Edge.badState("load(1, 1)") + "open(1, 1, 'b', 0) = 0; wipe() = 1; " + Setup.ask(0, 1)
                + "frame() = 1; gotAt(0) = 1; type(9) = 1; type(9) = 2; " + Edge.badState("load(1, 1)")
                + "wipe() = 2; type(9) = 1; load(1, 1) = 32");
        }
    }

    private static void loadWhere() {
        for (String call : new String[] {"load(%s, 1)", "waiting(%s, 1)"}) {
            String end = call.substring(call.indexOf(','));
            String name = call.substring(0, call.indexOf('('));
            String of = name + "(1, %s)";
            Script.run("33 and 45: the device and the endpoint, " + name + end, Setup.zoo() + Edge.index(call, 1, 7)
                + Edge.badIndex(call.replace("%s", "0")) + Edge.index(of, 1, 3) + Edge.badIndex(of.replace("%s", "3"))
                + Edge.unsupported(of.replace("%s", "2"), name + "(7, 2)")
                + Edge.forNumbers(1, 7, name + "(%s, 1) = 0; ") + "type(1) = 1; " + Edge.badIndex(name + "(8, 1)",
                    name + "(1, 3)") + Edge.unsupported(name + "(1, 2)"));
        }
        Script.run("33 load: in each state", Setup.zoo() + Edge.forNumbers(1, 7, "type(%s) = 1; load(%s, 1) = 1; "
            + "waiting(%s, 1) = 1; "));
    }

    private static void numbersOfFault() {
        Script.run("34 fault: the bounds", Setup.device(1, 'h', 0, 8, 0, -8) + Setup.device(2, 'h', 1)
            + Edge.index("fault(%s, 0, 'c', 1)", 1, 2) + Edge.index("fault(1, %s, 'c', 1)", 0, 3)
            + Edge.badIndex("fault(1, 2, 'c', 1)", "fault(2, 1, 'c', 1)", "fault(0, 1, 'c', 1)")
            + Edge.argument("fault(1, 0, 'c', %s)", 1, 9) + Edge.argument("fault(1, 3, 't', %s)", 1, 9)
            + Edge.forSigns("efghmopruqCDANSBT0 \u0000\uffff", "fault(1, 1, '%s', 1) throws IllegalArgumentException; ")
            + "fault(1, 0, 'c', 1) = 0; fault(1, 3, 'c', 1) = 0; fault(1, 1, 'c', 9) = 0");
        for (char kind : new char[] {'c', 'd', 'a', 'n', 's', 'b', 't'}) {
            String call = "', %s) = ";
            String one = call.replace("%s", "1");
            String nine = call.replace("%s", "9");
            Script.run("34 fault: in place of one told before, " + kind, Setup.device(1, 'h', 0, 8, 0, -8)
                + "fault(1, 0, '" + kind + nine + "0; fault(1, 1, '" + kind + one + "0; fault(1, 3, '" + kind + nine
                + "0; fault(1, 0, '" + kind + one + "9; fault(1, 1, '" + kind + nine + "1; fault(1, 3, 'c" + one
                + "9; fault(1, 3, '" + kind + nine + "1; unplug(1) = 1; fault(1, 0, '" + kind + nine + "1; "
                + "fault(1, 1, '"
                + kind + one + "9; plug(1, 0, 0) = 1; fault(1, 3, '" + kind + one + "9; fault(1, 0, '" + kind + one
                + "9");
        }
        Script.run("34 fault: two exceptions at once", Setup.device(1, 'h', 0, 8)
            + Edge.badIndex("fault(0, 0, 'q', 1)", "fault(0, 1, 'c', 0)", "fault(2, 0, 'q', 0)",
            "fault(-1, 0, 'c', 10)",
                "fault(1, 2, 'q', 1)", "fault(1, 4, 'c', 0)", "fault(1, -1, 'c', 10)", "fault(2, 1, 'c', 10)"));
    }

    private static void causes() {
        Script.run("50 causeOf: not halted since it was opened", Setup.device(1, 'h', 0, 8, -8)
            + "open(1, 2, 'b', 0) = 0; " + Edge.unsupported("causeOf(0)") + "fault(1, 2, 'c', 2) = 0; "
            + Setup.send(0, 1) + "frame() = 1; frame() = 1; " + Edge.unsupported("causeOf(0)") + "isHalted(0) = false; "
            + "fault(1, 2, 'c', 1) = 0; frame() = 1; causeOf(0) = 'c'; isHalted(0) = true; clear(0) = 0; "
            + "causeOf(0) = 'c'; isHalted(0) = false; close(0) = 0; " + Edge.noElement("causeOf(0)", "isHalted(0)")
            + "open(1, 2, 'b', 0) = 0; " + Edge.unsupported("causeOf(0)") + "open(1, 1, 'b', 0) = 1; "
            + Edge.unsupported("causeOf(1)"));
    }
}
