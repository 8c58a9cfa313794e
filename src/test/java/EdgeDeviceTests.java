/** Promises 1 to 17 and the terms on devices and states: each sentence that names a bound or a refused call. */
final class EdgeDeviceTests {
    private EdgeDeviceTests() {
    }

    static void run() {
        hostHub();
        sixteenDevices();
        numbersOfMake();
        speedsOfMake();
        numbersOfEndpoint();
        endpointOfPlugged();
        ports();
        hubsThatTakeDevices();
        plugged();
        depth();
        speeds();
        translators();
        unplug();
        unplugWithFullRow();
        whatStaysBelow();
        readers();
        look();
        tries();
        fifteenAddresses();
        portPower();
        driverBounds();
        drawBounds();
        drawWhileShut();
        drawInEachState();
        sleepInEachState();
        sleepWithTransfers();
        wakeInEachState();
        wakeWaits();
    }

    private static void hostHub() {
        Script.run("the host's hub: 4 ports, high, with power of its own, configured", """
            speedOf(0) = 'h'; stateOf(0) = 'c'; depthOf(0) = 0; hubOf(0) = -1; addressOf(0) = 0; driverOf(0) = -1;
            make('h', 0, 5, false, 0) = 1; make('h', 0, 5, false, 0) = 2; make('h', 0, 5, false, 0) = 3;
            make('h', 0, 5, false, 0) = 4; make('h', 0, 5, false, 0) = 5;
            plug(1, 0, 0) = 1; plug(2, 0, 1) = 1; plug(3, 0, 2) = 1; plug(4, 0, 3) = 1;
            """ + Edge.index("plug(5, 0, %s)", 0, 3) + Edge.forNumbers(1, 4, "look() = %s; stateOf(%s) = 'c'; ")
            + Edge.noElement("look()") + Edge.badIndex("unplug(0)", "sleep(0)", "draw(0, 1)", "fault(0, 0, 'c', 1)")
            + Edge.unsupported("wake(0)", "translator(0)", "plug(0, 0, 0)", "endpoint(0, 1, true, 1)"));
    }

    private static void sixteenDevices() {
        Script.run("2 make: at most 16 devices", Edge.forNumbers(1, 15, "make('f', 1, 1, false, 0) = %s; ")
            + Edge.badState("make('f', 1, 1, false, 0)", "make('l', 0, 5, true, 99)")
            + Edge.badArgument("make('q', 1, 1, false, 0)", "make('l', 1, 1, false, 0)", "make('h', 5, 1, true, 0)",
                "make('h', -1, 1, true, 0)", "make('h', 0, 0, true, 0)", "make('h', 0, 6, true, 0)",
                "make('h', 0, 1, true, -1)", "make('h', 0, 1, true, 100)")
            + "stateOf(15) = 'u'; unplug(15) throws UnsupportedOperationException; plug(15, 0, 0) = 1; "
            + "unplug(15) = 1; " + Edge.badState("make('f', 1, 1, false, 0)") + Edge.index("stateOf(%s)", 0, 15));
    }

    private static void numbersOfMake() {
        Script.run("2 make: 0 to 4 ports", "make('f', 0, 1, false, 0) = 1; make('h', 4, 1, false, 0) = 2; "
            + "make('f', 4, 1, false, 0) = 3; make('f', 1, 1, false, 0) = 4; "
            + Edge.argument("make('h', %s, 1, false, 0)", 0, 4) + Edge.argument("make('f', %s, 1, true, 0)", 0, 4)
            + "make('h', 0, 1, false, 0) = 5");
        Script.run("2 make: a need of 1 to 5", Edge.forNumbers(1, 5, "make('f', 0, %s, false, 0) = %s; ")
            + Edge.argument("make('h', 0, %s, false, 0)", 1, 5) + Edge.argument("make('h', 0, %s, true, 0)", 1, 5)
            + "make('h', 0, 1, true, 0) = 6; make('h', 0, 5, true, 0) = 7");
        Script.run("2 make: a kind of 0 to 99", "make('f', 0, 1, false, 0) = 1; make('f', 0, 1, false, 99) = 2; "
            + Edge.argument("make('f', 0, 1, false, %s)", 0, 99) + "make('f', 0, 1, false, 98) = 3");
    }

    private static void speedsOfMake() {
        Script.run("2 make: l, f or h", "make('l', 0, 1, false, 0) = 1; make('f', 0, 1, false, 0) = 2; "
            + "make('h', 0, 1, false, 0) = 3; speedOf(1) = 'l'; speedOf(2) = 'f'; speedOf(3) = 'h'; "
            + Edge.forSigns("kmegicnpxszuLFH0 \u0000\uffff",
                "make('%s', 0, 1, false, 0) throws IllegalArgumentException; "));
        Script.run("2 make: a hub is not low", "make('l', 0, 1, true, 0) = 1; "
            + Edge.forNumbers(1, 5, "make('l', %s, 1, true, 0) throws IllegalArgumentException; ")
            + "make('f', 1, 1, true, 0) = 2; make('h', 1, 1, true, 0) = 3");
    }

    private static void numbersOfEndpoint() {
        Script.run("3 endpoint: the bounds", "make('h', 0, 1, false, 0) = 1; make('h', 0, 1, false, 0) = 2; "
            + Edge.index("endpoint(%s, 1, true, 1)", 0, 2) + Edge.argument("endpoint(1, %s, true, 1)", 1, 3)
            + Edge.argument("endpoint(1, 1, true, %s)", 1, 8) + Edge.argument("endpoint(1, 3, false, %s)", 1, 8)
            + "endpoint(1, 1, true, 1) = 1; endpoint(1, 3, false, 8) = 2; endpoint(1, 2, true, 8) = 3; "
            + Edge.unsupported("endpoint(1, 1, true, 1)", "endpoint(1, 2, false, 2)", "endpoint(1, 3, true, 8)")
            + "waiting(1, 1) = 0; waiting(1, 2) = 0; taken(1, 3) = 0; endpoint(2, 3, false, 1) = 1; "
            + Edge.badIndex("waiting(2, 1)", "taken(2, 2)", "waiting(1, 4)", "waiting(1, 0)"));
        Script.run("3 endpoint: two exceptions at once", "make('h', 0, 1, false, 0) = 1; "
            + "endpoint(1, 1, true, 1) = 1; "
            + Edge.badIndex("endpoint(2, 0, true, 1)", "endpoint(-1, 1, true, 9)", "endpoint(2, 4, true, 0)")
            + Edge.badArgument("endpoint(1, 1, true, 9)", "endpoint(1, 1, true, 0)", "endpoint(0, 0, true, 1)",
                "endpoint(0, 4, true, 1)", "endpoint(0, 1, true, 9)", "endpoint(0, 1, true, 0)"));
    }

    private static void endpointOfPlugged() {
        Script.run("3 endpoint: refused in each state but 'u'", Setup.zoo()
            + Edge.forNumbers(0, 6, "endpoint(%s, 3, true, 1) throws UnsupportedOperationException; ")
            + Edge.forNumbers(1, 6, "endpoint(%s, 1, true, 1) throws UnsupportedOperationException; ")
            + Edge.forNumbers(1, 6, "endpoint(%s, 4, true, 1) throws IllegalArgumentException; ")
            + "endpoint(7, 3, true, 1) = 3; endpoint(7, 3, true, 1) throws UnsupportedOperationException; "
            + "unplug(4) = 1; endpoint(4, 3, true, 1) = 3; unplug(5) = 1; endpoint(5, 3, false, 8) = 3");
    }

    private static void ports() {
        for (int ports = 0; ports <= 4; ports++) {
            StringBuilder text = new StringBuilder("make('f', " + ports + ", 1, true, 0) = 1; plug(1, 0, 2) = 1; ");
            text.append(Edge.forNumbers(2, 6, "make('l', 0, 1, false, 0) = %s; "));
            text.append(Edge.index("plug(2, 1, %s)", 0, ports - 1));
            for (int port = 0; port < ports; port++) {
                text.append("plug(").append(port + 2).append(", 1, ").append(port).append(") = 2; ");
            }
            for (int port = 0; port < ports; port++) {
                text.append("plug(6, 1, ").append(port).append(") throws UnsupportedOperationException; ");
            }
            Script.run("4 plug: a hub of " + ports + " ports", text + Edge.index("plug(6, 1, %s)", 0, ports - 1)
                + Edge.index("plug(2, 1, %s)", 0, ports - 1) + "unplug(1) = " + (ports + 1));
        }
        Script.run("4 plug: the device and the hub", "make('h', 2, 1, true, 0) = 1; make('h', 2, 1, true, 0) = 2; "
            + Edge.index("plug(%s, 0, 0)", 0, 2) + Edge.index("plug(1, %s, 0)", 0, 2)
            + Edge.badIndex("plug(0, 0, 4)", "plug(0, 3, 0)", "plug(3, 1, 0)", "plug(1, 2, 2)", "plug(1, 1, 2)",
                "plug(1, 3, 4)")
            + Edge.unsupported("plug(1, 1, 0)", "plug(1, 2, 0)", "plug(2, 1, 1)", "plug(0, 1, 0)", "plug(0, 0, 3)")
            + "plug(2, 0, 3) = 1; plug(1, 2, 1) = 2");
    }

    private static void hubsThatTakeDevices() {
        Script.run("4 plug: hubs in each state", Setup.zoo() + Edge.unsupported("plug(7, 4, 2)", "plug(7, 5, 2)",
                "plug(7, 7, 2)")
            + "plug(7, 1, 2) = 2; unplug(7) = 1; plug(7, 2, 2) = 3; unplug(7) = 1; plug(7, 3, 2) = 3; unplug(7) = 1; "
            + "plug(7, 6, 2) = 2; stateOf(7) = 'n'; unplug(7) = 1; unplug(4) = 1; unplug(5) = 1; "
            + Edge.unsupported("plug(7, 4, 0)", "plug(7, 5, 0)") + "plug(4, 0, 1) = 1; plug(5, 0, 2) = 1; "
            + "plug(7, 4, 0) = 2; unplug(7) = 1; plug(7, 5, 0) = 2; hubOf(7) = 5; depthOf(7) = 2");
    }

    private static void plugged() {
        Script.run("4 plug: devices in each state", Setup.zoo()
            + Edge.forNumbers(0, 6, "plug(%s, 1, 2) throws UnsupportedOperationException; ")
            + Edge.forNumbers(0, 6, "plug(%s, 1, 3) throws IndexOutOfBoundsException; ")
            + Edge.unsupported("plug(7, 1, 0)", "plug(7, 1, 1)", "plug(7, 0, 0)", "plug(7, 0, 1)", "plug(7, 0, 2)",
                "plug(7, 0, 3)")
            + "plug(7, 1, 2) = 2; plug(7, 1, 2) throws UnsupportedOperationException");
    }

    private static void depth() {
        Script.run("4 plug: a depth of at most 5", Setup.chain() + Edge.forNumbers(1, 5, "depthOf(%s) = %s; ")
            + Edge.unsupported("plug(6, 5, 0)", "plug(6, 5, 1)") + "depthOf(6) = -1; hubOf(6) = -1; stateOf(6) = 'u'; "
            + Edge.badIndex("plug(6, 5, 2)") + "plug(6, 4, 1) = 5; depthOf(6) = 5; unplug(6) = 1; unplug(5) = 1; "
            + "plug(6, 4, 0) = 5; plug(5, 6, 0) throws UnsupportedOperationException; unplug(4) = 2; "
            + "plug(5, 3, 0) = 4; plug(4, 5, 1) = 5; plug(6, 4, 0) throws UnsupportedOperationException; "
            + "depthOf(5) = 4; depthOf(4) = 5; unplug(1) = 5; " + Edge.forNumbers(1, 6, "depthOf(%s) = -1; "));
    }

    private static void speeds() {
        String order = "lfh";
        for (char hub : new char[] {'f', 'h'}) {
            for (char own : new char[] {'l', 'f', 'h'}) {
                char runs = order.indexOf(own) < order.indexOf(hub) ? own : hub;
                Script.run("9 speedOf: " + own + " in " + hub, "make('" + hub + "', 1, 1, true, 0) = 1; make('" + own
                    + "', 0, 1, true, 0) = 2; speedOf(2) = '" + own + "'; plug(1, 0, 0) = 1; speedOf(1) = '" + hub
                    + "'; plug(2, 1, 0) = 2; speedOf(2) = '" + runs + "'; unplug(2) = 1; speedOf(2) = '" + own
                    + "'; plug(2, 0, 1) = 1; speedOf(2) = '" + own + "'; unplug(1) = 1; speedOf(1) = '" + hub + "'");
            }
        }
        Script.run("9 speedOf: that at which the hub runs, not its own", """
            make('f', 1, 1, true, 0) = 1; make('h', 1, 1, true, 0) = 2; make('h', 1, 1, true, 0) = 3;
            make('l', 0, 1, true, 0) = 4; plug(1, 0, 0) = 1; plug(2, 1, 0) = 2; plug(3, 2, 0) = 3; plug(4, 3, 0) = 4;
            speedOf(2) = 'f'; speedOf(3) = 'f'; speedOf(4) = 'l'; unplug(1) = 4; speedOf(2) = 'h'; speedOf(3) = 'h';
            plug(2, 0, 0) = 1; plug(3, 2, 0) = 2; speedOf(2) = 'h'; speedOf(3) = 'h'; speedOf(1) = 'f'.
            """);
    }

    private static void translators() {
        Script.run("10 translator: the nearest hub above that runs high", """
            make('h', 2, 1, true, 0) = 1; make('h', 2, 1, true, 0) = 2; make('f', 2, 1, true, 0) = 3;
            make('h', 2, 1, true, 0) = 4; make('h', 0, 1, true, 0) = 5; make('l', 0, 1, true, 0) = 6;
            make('h', 0, 1, true, 0) = 7; plug(1, 0, 0) = 1; plug(2, 1, 0) = 2; plug(3, 2, 0) = 3; plug(4, 3, 0) = 4;
            plug(5, 4, 0) = 5; plug(6, 2, 1) = 3; plug(7, 0, 1) = 1; translator(1) = 0; translator(2) = 1;
            translator(3) = 2; translator(4) = 2; translator(5) = 2; translator(6) = 2; translator(7) = 0;
            unplug(2) = 5;
            """ + Edge.forNumbers(2, 6, "translator(%s) throws UnsupportedOperationException; ") + """
            translator(0) throws UnsupportedOperationException; plug(3, 0, 2) = 1; plug(4, 3, 1) = 2;
            translator(4) = 0; plug(5, 1, 0) = 2; translator(5) = 1; plug(6, 4, 0) = 3; translator(6) = 0;
            """ + Edge.index("translator(%s)", 0, 7));
        Script.run("10 translator: in each state but 'u'", Setup.zoo() + "translator(1) = 0; translator(2) = 1; "
            + "translator(3) = 1; translator(4) = 0; translator(5) = 0; translator(6) = 0; "
            + "translator(7) throws UnsupportedOperationException");
    }

    private static void unplug() {
        Script.run("5 unplug: in each state", Setup.zoo() + Edge.index("unplug(%s)", 1, 7)
            + Edge.unsupported("unplug(7)")
            + "unplug(3) = 1; unplug(2) = 1; unplug(1) = 1; unplug(4) = 1; unplug(5) = 1; unplug(6) = 1; "
            + Edge.forNumbers(1, 7, "unplug(%s) throws UnsupportedOperationException; ")
            + Edge.forNumbers(1, 7, "stateOf(%s) = 'u'; addressOf(%s) = 0; hubOf(%s) = -1; "));
        Script.run("5 unplug: all below it, and none beside it", Setup.chain() + """
            plug(6, 1, 1) = 2; unplug(3) = 3; stateOf(2) = 'c'; stateOf(6) = 'n'; stateOf(3) = 'u'; stateOf(5) = 'u';
            plug(3, 2, 0) = 3; plug(4, 3, 0) = 4; unplug(1) = 5; unplug(4) throws UnsupportedOperationException;
            plug(1, 0, 0) = 1; unplug(1) = 1.
            """);
    }

    private static void unplugWithFullRow() {
        Script.run("5 unplug: each transfer is over by 'g', by the numbers of the pipes", """
            make('h', 2, 1, true, 0) = 1; make('h', 0, 1, false, 0) = 2; endpoint(1, 1, true, 8) = 1;
            endpoint(2, 1, true, 8) = 1; plug(1, 0, 0) = 1; plug(2, 1, 0) = 2; look() = 1; look() = 2;
            open(2, 1, 'b', 0) = 0; open(1, 1, 'b', 0) = 1; ask(1, 1) = 1; ask(1, 2) = 2; ask(1, 3) = 3; ask(1, 4) = 4;
            ask(0, 5) = 1; ask(0, 6) = 2; ask(0, 7) = 3; ask(0, 8) = 4; ring(0) = 4; events() = 0; unplug(1) = 2;
            events() = 6; missed() = 2;
            """ + Edge.forNumbers(1, 4, Setup.event('g', 0, 0)) + Edge.forNumbers(1, 2, Setup.event('g', 1, 0)) + """
            events() = 0; meanBytes() = 0.0; phaseOf(0) throws NoSuchElementException;
            phaseOf(1) throws NoSuchElementException.
            """);
    }

    private static void whatStaysBelow() {
        Script.run("5 unplug: what stays at those below, and what does not", """
            make('h', 2, 1, true, 0) = 1; make('h', 0, 1, false, 10) = 2; endpoint(2, 1, true, 8) = 1;
            endpoint(2, 2, false, 8) = 2; driver(1, 0) = 0; plug(1, 0, 0) = 1; plug(2, 1, 0) = 2; look() = 1;
            look() = 2; open(2, 1, 'i', 1) = 0; open(2, 2, 'b', 0) = 1; type(7) = 1; load(2, 1) = 1;
            """ + Setup.send(1, 8, 9) + """
            frame() = 1; event() = 'd'; draw(2, 4) = 1; fault(2, 0, 'n', 2) = 0; fault(2, 1, 'd', 3) = 0;
            fault(2, 2, 's', 4) = 0; driverOf(2) = 0; addressOf(2) = 2; unplug(1) = 2; stateOf(2) = 'u';
            driverOf(2) = -1; addressOf(2) = 0; hubOf(2) = -1; depthOf(2) = -1; reserved(0, -1) = 0;
            waiting(2, 1) = 1; taken(2, 2) = 2; takenAt(2, 2, 0) = 9; draw(2, 4) = 4; fault(2, 0, 'n', 1) = 2;
            fault(2, 1, 'd', 1) = 3; fault(2, 2, 's', 1) = 4; frame() = 0; plug(2, 0, 0) = 1; look() = 2;
            packets('t') = 17; stateOf(2) = 'c'; frame() = 0; stateOf(2) = 'c'; open(2, 1, 'b', 0) = 0; ask(0, 1) = 1;
            ring(0) = 1; frame() = 1; got() = 0; frame() = 1; got() = 1; gotAt(0) = 7.
            """);
        Script.run("a hub that is shut or dead has no devices, and their pipes are closed", """
            make('h', 2, 1, false, 0) = 1; make('h', 1, 1, true, 0) = 2; make('h', 0, 1, false, 0) = 3;
            endpoint(2, 1, true, 8) = 1; endpoint(3, 1, true, 8) = 1; endpoint(1, 1, true, 8) = 1; plug(1, 0, 0) = 1;
            plug(2, 1, 0) = 2; plug(3, 2, 0) = 3; look() = 1; look() = 2; look() = 3; open(3, 1, 'i', 1) = 0;
            open(1, 1, 'i', 1) = 1; open(2, 1, 'i', 1) = 2; ask(0, 1) = 1; ask(1, 2) = 1; ask(2, 3) = 1; ask(2, 4) = 2;
            draw(1, 6) = 1; frame() = 0; stateOf(1) = 's'; stateOf(2) = 'u'; stateOf(3) = 'u'; hubOf(2) = -1;
            addressOf(3) = 0; reserved(0, -1) = 10; events() = 3;
            """ + Setup.event('g', 0, 0) + Setup.event('g', 2, 0) + Setup.event('g', 2, 0) + """
            phaseOf(0) throws NoSuchElementException; phaseOf(1) = 0; phaseOf(2) throws NoSuchElementException;
            unplug(2) throws UnsupportedOperationException; plug(2, 0, 1) = 1; plug(3, 2, 0) = 2;
            fault(2, 0, 'c', 3) = 0; look() = 2; stateOf(2) = 'x'; stateOf(3) = 'u'; depthOf(3) = -1;
            plug(3, 0, 2) = 1; look() = 3; addressOf(3) = 2.
            """);
    }

    private static void readers() {
        StringBuilder text = new StringBuilder(Setup.zoo());
        for (String name : new String[] {"stateOf", "hubOf", "depthOf", "speedOf", "addressOf", "driverOf", "blame",
            "translator"}) {
            text.append(Edge.index(name + "(%s)", 0, 7));
        }
        Script.run("6 to 11, 14 and 49: there are devices 0 to 7", text + """
            hubOf(7) = -1; depthOf(7) = -1; addressOf(7) = 0; driverOf(7) = -1; blame(7) = 0; hubOf(2) = 1;
            depthOf(2) = 2; addressOf(2) = 4; addressOf(3) = 0; addressOf(4) = 0; addressOf(5) = 2; addressOf(6) = 3;
            depthOf(4) = 1; hubOf(4) = 0; hubOf(5) = 0; depthOf(5) = 1; blame(4) = 1; blame(5) = 1; blame(6) = 0.
            """);
    }

    private static void look() {
        Script.run("12 look: a hub that is not configured", Setup.zoo() + """
            look() = 3; look() throws NoSuchElementException; plug(7, 2, 0) = 3; look() throws NoSuchElementException;
            unplug(7) = 1; plug(7, 6, 0) = 2; look() throws NoSuchElementException; wake(6) = 1; look() = 7;
            look() throws NoSuchElementException.
            """);
        Script.run("12 look: a new hub hides what is below it", Setup.chain() + """
            unplug(1) = 5; look() throws NoSuchElementException; plug(6, 0, 0) = 1; plug(5, 6, 0) = 2;
            plug(4, 5, 0) = 3; plug(1, 4, 0) = 4; look() = 6; look() = 5; look() = 4; look() = 1;
            look() throws NoSuchElementException.
            """);
        Script.run("12 look: the smaller depth ahead of the smaller number", Setup.chain() + """
            unplug(5) = 1; unplug(4) = 1; plug(4, 3, 0) = 4; plug(5, 0, 1) = 1; plug(6, 2, 1) = 3; look() = 5;
            look() = 6; look() = 4; unplug(6) = 1; unplug(4) = 1; plug(6, 3, 0) = 4; plug(4, 3, 1) = 4; look() = 4;
            look() = 6.
            """);
    }

    private static void tries() {
        for (int failures = 1; failures <= 9; failures++) {
            boolean isDead = failures >= 3;
            for (char kind : new char[] {'c', 'd', 'a', 'n', 's', 'b', 't'}) {
                Script.run("12 look: " + failures + " failures by " + kind, "make('h', 0, 1, false, 0) = 1; "
                    + "plug(1, 0, 0) = 1; fault(1, 0, '" + kind + "', " + failures + ") = 0; look() = 1; stateOf(1) = '"
                    + (isDead ? 'x' : 'c') + "'; packets('t') = " + (isDead ? 3 : 5 + failures) + "; blame(1) = "
                    + (isDead ? 1 : 0) + "; addressOf(1) = " + (isDead ? 0 : 1) + "; packets('d') = 0; "
                    + "packets('h') = 0; fault(1, 0, 'c', 1) = " + (isDead ? failures - 3 : 0));
            }
        }
    }

    private static void fifteenAddresses() {
        StringBuilder text = new StringBuilder(Edge.forNumbers(1, 15, "make('h', 4, 1, true, 0) = %s; "));
        for (int i = 1; i <= 15; i++) {
            int hub = i <= 4 ? 0 : (i - 1) / 4;
            text.append("plug(").append(i).append(", ").append(hub).append(", ").append((i - 1) % 4).append(") = ")
                .append(i <= 4 ? 1 : 2).append("; ");
        }
        Script.run("12 look: the lowest address that is free, from 1 to 15", text
            + Edge.forNumbers(1, 15, "addressOf(%s) = 0; ") + Edge.forNumbers(1, 15, "look() = %s; "
            + "addressOf(%s) = %s; ")
            + Edge.noElement("look()") + """
            unplug(7) = 1; plug(7, 1, 2) = 2; look() = 7; addressOf(7) = 7; unplug(1) = 5; addressOf(1) = 0;
            addressOf(8) = 0; plug(8, 0, 0) = 1; look() = 8; addressOf(8) = 1; plug(1, 4, 0) = 2; look() = 1;
            addressOf(1) = 5; plug(5, 4, 1) = 2; fault(5, 0, 'c', 3) = 0; look() = 5; addressOf(5) = 0;
            plug(6, 4, 2) = 2; look() = 6; addressOf(6) = 6; unplug(5) = 1; plug(5, 4, 1) = 2; look() = 5;
            addressOf(5) = 7; plug(7, 4, 3) = 2; look() = 7; addressOf(7) = 8; unplug(15) = 1; plug(15, 3, 2) = 2;
            look() = 15; addressOf(15) = 15.
            """);
    }

    private static void portPower() {
        Script.run("12 look: 5 units of a hub with power of its own", Edge.forNumbers(1, 5,
            "make('h', 0, %s, false, 10) = %s; plug(%s, 0, 0) = 1; look() = %s; stateOf(%s) = 'c'; frame() = 0; "
            + "stateOf(%s) = 'c'; unplug(%s) = 1; "));
        StringBuilder text = new StringBuilder("driver(1, -1) = 0; make('h', 2, 1, false, 0) = 1; plug(1, 0, 0) = 1; "
            + "look() = 1; ");
        for (int need = 1; need <= 5; need++) {
            int number = 2 * need;
            text.append("make('h', 0, ").append(need).append(", false, 10) = ").append(number).append("; plug(")
                .append(number).append(", 1, 0) = 2; look() = ").append(number).append("; stateOf(").append(number)
                .append(") = '").append(need == 1 ? 'c' : 'p').append("'; addressOf(").append(number)
                .append(") = 2; driverOf(").append(number).append(") = ").append(need == 1 ? 0 : -1).append("; ")
                .append("frame() = 0; unplug(").append(number).append(") = 1; ")
                .append("make('h', 0, ").append(need).append(", true, 10) = ").append(number + 1).append("; plug(")
                .append(number + 1).append(", 1, 1) = 2; look() = ").append(number + 1).append("; stateOf(")
                .append(number + 1).append(") = 'c'; driverOf(").append(number + 1).append(") = 0; frame() = 0; ")
                .append("unplug(").append(number + 1).append(") = 1; ");
        }
        Script.run("12 look: 1 unit of a hub without", text.toString());
    }

    private static void driverBounds() {
        Script.run("13 driver: the bounds, and at most 8", Edge.argument("driver(%s, 0)", 0, 9)
            + Edge.argument("driver(0, %s)", -1, 9) + "driver(0, 0) = 0; driver(9, 9) = 1; driver(0, 9) = 2; "
            + "driver(9, 0) = 3; driver(5, -1) = 4; driver(5, -1) = 5; driver(0, -1) = 6; driver(9, -1) = 7; "
            + Edge.badState("driver(0, 0)", "driver(9, -1)") + Edge.argument("driver(%s, 0)", 0, 9)
            + Edge.argument("driver(0, %s)", -1, 9) + """
            make('h', 0, 1, false, 0) = 1; make('h', 0, 1, false, 99) = 2; make('h', 0, 1, false, 9) = 3;
            make('h', 0, 1, false, 90) = 4; plug(1, 0, 0) = 1; plug(2, 0, 1) = 1; plug(3, 0, 2) = 1;
            plug(4, 0, 3) = 1; look() = 1; look() = 2; look() = 3; look() = 4; driverOf(1) = 0; driverOf(2) = 1;
            driverOf(3) = 2; driverOf(4) = 3; unplug(1) = 1; driverOf(1) = -1; make('h', 0, 1, false, 57) = 5;
            plug(5, 0, 0) = 1; look() = 5; driverOf(5) = 4; unplug(2) = 1; make('h', 0, 1, false, 8) = 6;
            plug(6, 0, 1) = 1; look() = 6; driverOf(6) = 6; unplug(3) = 1; make('h', 0, 1, false, 40) = 7;
            plug(7, 0, 2) = 1; look() = 7; driverOf(7) = -1; unplug(4) = 1; make('h', 0, 1, false, 98) = 8;
            plug(8, 0, 3) = 1; look() = 8; driverOf(8) = 7.
            """);
        Script.run("12 look: no driver at all", Setup.device(1, 'h', 0) + "driverOf(1) = -1; driver(0, 0) = 0; "
            + "driverOf(1) = -1; unplug(1) = 1; plug(1, 0, 0) = 1; driverOf(1) = -1; look() = 1; driverOf(1) = 0");
    }

    private static void drawBounds() {
        StringBuilder text = new StringBuilder(Setup.device(1, 'h', 0)
            + "make('h', 1, 5, false, 0) = 2; draw(2, 0) = 5; ");
        for (int units = 1; units <= 9; units++) {
            text.append("draw(2, ").append(units).append(") = ").append(units - 1).append("; ");
        }
        Script.run("15 draw: 0 to 9", text + Edge.index("draw(%s, 1)", 1, 2) + Edge.argument("draw(2, %s)", 0, 9)
            + Edge.badIndex("draw(0, 10)", "draw(3, -1)", "draw(-1, 10)", "draw(0, 0)") + "draw(2, 9) = 9");
        String hub = "make('h', 2, 1, false, 0) = 1; make('h', 0, 1, false, 0) = 2; plug(1, 0, 0) = 1; "
            + "plug(2, 1, 0) = 2; look() = 1; look() = 2; ";
        Script.run("15 draw: what a port gives", hub + """
            draw(1, 5) = 1; draw(2, 1) = 1; frame() = 0; stateOf(1) = 'c'; stateOf(2) = 'c'; draw(2, 0) = 1;
            draw(1, 0) = 5; frame() = 0; stateOf(1) = 'c'; stateOf(2) = 'c'; draw(2, 2) = 0; frame() = 0;
            stateOf(2) = 's'; stateOf(1) = 'c'; blame(2) = 1; draw(1, 6) = 0; stateOf(1) = 'c'; frame() = 0;
            stateOf(1) = 's'; stateOf(2) = 'u'; blame(1) = 1; blame(2) = 1.
            """);
        Script.run("15 draw: with power of its own nothing is drawn", """
            make('h', 0, 5, true, 0) = 1; make('h', 1, 1, false, 0) = 2; plug(2, 0, 0) = 1; plug(1, 2, 0) = 2;
            look() = 2; look() = 1; draw(1, 9) = 0; frame() = 0; stateOf(1) = 'c'; draw(1, 0) = 0; frame() = 0;
            stateOf(1) = 'c'; blame(1) = 0.
            """);
    }

    private static void drawWhileShut() {
        Script.run("15 draw: a shut device keeps its port and its pipes until it is unplugged",
            Setup.device(1, 'h', 0, 8, -8) + """
            make('h', 0, 1, false, 0) = 2; open(1, 1, 'i', 2) = 0; open(1, 2, 'b', 0) = 1; ask(0, 4) = 1;
            draw(1, 6) = 1; frame() = 0; stateOf(1) = 's'; hubOf(1) = 0; depthOf(1) = 1; phaseOf(0) = 0;
            phaseOf(1) = -1; reserved(0, -1) = 10; events() = 0; draw(1, 0) = 6; frame() = 0; stateOf(1) = 's';
            plug(2, 0, 0) throws UnsupportedOperationException; open(1, 1, 'b', 0)
            throws UnsupportedOperationException; ask(0, 5) = 2; ring(0) = 2; frame() = 0; frame() = 0; cancel(0) = 0;
            close(1) = 0; unplug(1) = 1; reserved(0, -1) = 0; phaseOf(0) throws NoSuchElementException; events() = 2;
            """ + Setup.event('x', 0, 0) + Setup.event('g', 0, 0) + "plug(2, 0, 0) = 1");
    }

    private static void drawInEachState() {
        Script.run("15 draw: only configured devices are looked at", Setup.zoo() + """
            draw(2, 9) = 2; draw(3, 9) = 1; draw(4, 9) = 1; draw(5, 9) = 6; draw(6, 9) = 1; draw(7, 9) = 1; frame() = 0;
            stateOf(1) = 'c'; stateOf(2) = 'p'; stateOf(3) = 'n'; stateOf(4) = 'x'; stateOf(5) = 's'; stateOf(6) = 'z';
            stateOf(7) = 'u'; blame(1) = 0; blame(2) = 0; blame(3) = 0; blame(4) = 1; blame(5) = 1; blame(6) = 0;
            blame(7) = 0; look() = 3; stateOf(3) = 'c'; wake(6) = 1; frame() = 0; stateOf(3) = 's'; stateOf(6) = 's';
            blame(3) = 1; blame(6) = 1; stateOf(2) = 'p'.
            """);
    }

    private static void sleepInEachState() {
        Script.run("16 sleep: refused in each state but 'c'", Setup.zoo() + Edge.index("sleep(%s)", 1, 7)
            + Edge.forNumbers(2, 7, "sleep(%s) throws UnsupportedOperationException; ") + """
            sleep(1) = 1; stateOf(1) = 'z'; stateOf(2) = 'p'; stateOf(3) = 'n'; sleep(1)
            throws UnsupportedOperationException; wake(1) = 1; look() = 3; sleep(1) = 2; stateOf(3) = 'z';
            stateOf(2) = 'p'; wake(1) = 1; stateOf(3) = 'z'; sleep(1) = 1.
            """);
        Script.run("16 sleep: all below it, and none beside or above it", Setup.chain() + """
            plug(6, 2, 1) = 3; look() = 6; sleep(3) = 3; stateOf(1) = 'c'; stateOf(2) = 'c'; stateOf(3) = 'z';
            stateOf(4) = 'z'; stateOf(5) = 'z'; stateOf(6) = 'c'; sleep(1) = 3; stateOf(0) = 'c'; stateOf(6) = 'z'.
            """);
    }

    private static void sleepWithTransfers() {
        String opened = Setup.chain() + "plug(6, 1, 1) = 2; look() = 6; open(3, 1, 'b', 0) = 0; ";
        Script.run("16 sleep: refused with a transfer in it or below it", opened + "type(1) = 1; send(0) = 1; "
            + Edge.unsupported("sleep(1)", "sleep(2)", "sleep(3)") + """
            sleep(4) = 2; sleep(6) = 1; ring(0) = 1; sleep(3) throws UnsupportedOperationException; frame() = 1;
            sleep(3) = 1; sleep(1) = 2.
            """);
        Script.run("16 sleep: refused with a transfer in a halted pipe", opened + "fault(3, 1, 's', 1) = 0; "
            + "type(1) = 1; send(0) = 1; type(1) = 1; send(0) = 2; ring(0) = 2; frame() = 1; isHalted(0) = true; "
            + Edge.unsupported("sleep(3)", "sleep(1)") + "cancel(0) = 0; isHalted(0) = true; sleep(1) = 6");
    }

    private static void wakeInEachState() {
        Script.run("17 wake: refused in each state but 'z'", Setup.zoo() + Edge.index("wake(%s)", 0, 7)
            + Edge.forNumbers(0, 5, "wake(%s) throws UnsupportedOperationException; ") + Edge.unsupported("wake(7)")
            + "wake(6) = 1; wake(6) throws UnsupportedOperationException; stateOf(6) = 'c'");
        Script.run("17 wake: all above it, not those beside or below it", Setup.chain() + """
            plug(6, 2, 1) = 3; look() = 6; sleep(5) = 1; sleep(1) = 5; wake(3) = 3; stateOf(1) = 'c'; stateOf(2) = 'c';
            stateOf(3) = 'c'; stateOf(4) = 'z'; stateOf(5) = 'z'; stateOf(6) = 'z'; wake(5) = 2; stateOf(4) = 'c';
            stateOf(5) = 'c'; stateOf(6) = 'z'; wake(6) = 1; wake(1) throws UnsupportedOperationException.
            """);
    }

    private static void wakeWaits() {
        for (int woken = 1; woken <= 5; woken++) {
            String top = Setup.chain() + "open(5, 1, 'b', 0) = 0; frame() = 0; frame() = 0; sleep(" + (6 - woken)
                + ") = " + woken + "; " + Setup.send(0, 7) + "frame() = 0; wake(5) = " + woken + "; ";
            Script.run("17 wake: transactions begin behind as many frames as were woken, " + woken, top
                + Edge.forNumbers(1, woken, "frame() = 0; taken(5, 1) = 0; ")
                + "frame() = 1; taken(5, 1) = 1; frames() = " + (woken + 4));
        }
    }
}
