/**
 * Where sentences meet: a hub and a device below it that have been through much (a driver, another draw, a lie, a
 * packet that was not acknowledged, faults to come, bytes that wait and that were taken, a lower speed than their own)
 * do all that others do.
 */
final class MeetWornTests {
    private static final String TREE = """
        driver(1, -1) = 0; make('f', 2, 1, true, 0) = 1; make('h', 3, 2, false, 12) = 2; make('h', 0, 1, false, 13) = 3;
        endpoint(2, 1, true, 4) = 1; endpoint(2, 2, false, 4) = 2; endpoint(3, 1, true, 4) = 1;
        endpoint(3, 2, false, 4) = 2; endpoint(3, 3, true, 2) = 3; plug(1, 0, 3) = 1; plug(2, 1, 1) = 2;
        plug(3, 2, 2) = 3; look() = 1; look() = 2; look() = 3; stateOf(3) = 'c'; draw(2, 3) = 2; draw(3, 0) = 1;
        """;
    private static final String PLACES = "speedOf(2) = 'f'; speedOf(3) = 'f'; translator(2) = 0; translator(3) = 0; "
        + "depthOf(2) = 2; depthOf(3) = 3; hubOf(2) = 1; hubOf(3) = 2; addressOf(2) = 2; addressOf(3) = 3; "
        + "driverOf(2) = 0; driverOf(3) = 0; blame(2) = 1; blame(3) = 1; ";
    private static final String BYTES = "waiting(2, 1) = 3; waiting(3, 1) = 3; waiting(3, 3) = 1; taken(2, 2) = 1; "
        + "taken(3, 2) = 1; takenAt(2, 2, 0) = 8; takenAt(3, 2, 0) = 8; got() = 0; ";

    private MeetWornTests() {
    }

    static void run() {
        asleepAndWoken();
        wokenTogether();
        plugged();
        shut();
        dead();
        pipes();
        transfers();
        refused();
        newBelow();
        many();
    }

    /**
     * Wears a device out: it lies, then its next packet, of bytes 1 and 2, is spoiled, and 3 waits behind it; it takes
     * 8. Its pipes are the bulk pipe of that number, and an interrupt pipe behind it.
     */
    private static String wear(int device, int pipe) {
        return "open(" + device + ", 1, 'b', 0) = " + pipe + "; open(" + device + ", 2, 'i', 4) = " + (pipe + 1) + "; "
            + Setup.load(device, 1, 1, 9) + "fault(" + device + ", 1, 't', 1) = 0; " + Setup.ask(pipe, 2)
            + "frame() = 2; waiting(" + device + ", 1) = 0; " + Setup.load(device, 1, 2, 1, 2)
            + "fault(" + device + ", 1, 'd', 1) = 0; frame() = 1; " + "cancel(" + pipe + ") = 0; "
            + Setup.event('x', pipe, 0) + Setup.load(device, 1, 3, 3) + Setup.send(pipe + 1, 8);
    }

    /** The hub 2 in pipes 0 and 1, of the phase 0, and the device 3 in pipes 2 and 3, of the phase 1. */
    private static String worn() {
        return TREE + wear(2, 0) + "phaseOf(1) = 0; frame() = 0; frame() = 1; event() = 'd'; " + wear(3, 2)
            + "phaseOf(3) = 1; frame() = 0; frame() = 0; frame() = 1; event() = 'd'; frames() = 9; "
            + Setup.load(3, 3, 1, 7) + "packets('t') = 23; packets('d') = 6; packets('h') = 6; "
            + "fault(2, 0, 'c', 1) = 0; fault(2, 1, 'c', 1) = 0; fault(2, 2, 'n', 1) = 0; fault(3, 0, 'd', 2) = 0; "
            + "fault(3, 1, 'n', 1) = 0; fault(3, 2, 'c', 1) = 0; fault(3, 3, 's', 9) = 0; " + PLACES + BYTES;
    }

    private static void asleepAndWoken() {
        Script.run("worn, asleep and woken one behind the other", worn() + "sleep(3) = 1; stateOf(3) = 'z'; "
            + "stateOf(2) = 'c'; sleep(2) = 1; stateOf(2) = 'z'; stateOf(1) = 'c'; " + PLACES + BYTES
            + Edge.unsupported("sleep(2)", "sleep(3)", "wake(1)", "open(3, 3, 'b', 0)", "plug(3, 2, 1)")
            + Edge.badIndex("plug(3, 2, 3)", "plug(2, 3, 0)") + "draw(2, 9) = 3; draw(3, 9) = 0; frame() = 0; "
            + "stateOf(2) = 'z'; blame(2) = 1; draw(2, 3) = 9; draw(3, 1) = 9; wake(2) = 1; stateOf(3) = 'z'; "
            + "wake(3) = 1; " + PLACES + BYTES + Setup.ask(0, 4) + Setup.ask(2, 1) + "frame() = 0; frame() = 2; "
            + "packets('h') = 7; frame() = 2; got() = 4; " + Setup.event('h', 0, 2) + Setup.event('d', 2, 2)
            + "waiting(2, 1) = 1; waiting(3, 1) = 1; fault(2, 1, 'c', 1) = 0; fault(3, 1, 'c', 1) = 0");
    }

    private static void wokenTogether() {
        Script.run("worn, asleep with the hub, woken with the device", worn() + "sleep(1) = 3; stateOf(1) = 'z'; "
            + "frame() = 0; wake(3) = 3; stateOf(1) = 'c'; stateOf(2) = 'c'; stateOf(3) = 'c'; " + PLACES + BYTES
            + "phaseOf(1) = 0; phaseOf(3) = 1; " + Setup.send(1, 5) + Setup.send(3, 6) + Setup.ask(2, 4)
            + "frame() = 0; frame() = 1; packets('h') = 7; frames() = 12; frame() = 0; frames() = 13; frame() = 1; "
            + "frame() = 1; frame() = 1; packets('d') = 8; "
            + Setup.event('h', 2, 2) + Setup.event('d', 1, 1) + "frame() = 1; frame() = 0; frame() = 0; frame() = 0; "
            + "frame() = 1; " + Setup.event('d', 3, 1) + "taken(3, 2) = 2; frames() = 21");
        Script.run("worn, woken, and what waits or is refused while it is not awake yet", worn()
            + "sleep(3) = 1; wake(3) = 1; ask(2, 4) = 1; cancel(2) = 0; event() = 'x'; ask(2, 4) = 1; ask(2, 4) = 2; "
            + "ask(2, 4) = 3; ask(2, 4) = 4; " + Edge.badState("ask(2, 4)") + Edge.unsupported("sleep(3)")
            + "close(2) = 4; " + Setup.event('x', 2, 0) + "open(3, 3, 'b', 0) = 2; reserved(0, 0) = 12; type(4) = 1; "
            + "send(3) = 1; send(3) throws UnsupportedOperationException; clear(3) = 1; ring(3) = 1; close(3) = 1; "
            + "reserved(1, 0) = 0; open(3, 2, 'i', 8) = 3; phaseOf(3) = 1; " + Edge.unsupported("cancel(3)")
            + "unplug(3) = 1; plug(3, 2, 0) = 3; speedOf(3) = 'f'; translator(3) = 0; plug(3, 2, 1) "
            + "throws UnsupportedOperationException");
    }

    private static void plugged() {
        Script.run("worn, unplugged and plugged elsewhere", worn() + "ask(2, 1) = 1; unplug(2) = 2; "
            + Setup.event('g', 2, 0) + Edge.unsupported("unplug(2)", "unplug(3)", "translator(3)")
            + "speedOf(2) = 'h'; "
            + "speedOf(3) = 'h'; addressOf(2) = 0; driverOf(3) = -1; blame(2) = 1; blame(3) = 1; hubOf(3) = -1; "
            + "reserved(0, 0) = 0; reserved(1, 0) = 0; reserved(1, -1) = 0; " + BYTES
            + "plug(2, 0, 0) = 1; plug(3, 2, 0) = 2; speedOf(3) = 'h'; translator(3) = 2; look() = 2; look() = 3; "
            + "packets('t') = 36; stateOf(2) = 'c'; stateOf(3) = 'c'; addressOf(3) = 3; addressOf(2) = 2; "
            + "driverOf(3) = 0; driverOf(2) = 0; frame() = 0; draw(2, 0) = 3; draw(3, 1) = 0; " + BYTES
            + "open(3, 1, 'b', 0) = 0; " + Setup.ask(0, 4) + "frame() = 1; left(2) = 60; frame() = 1; got() = 3; "
            + Setup.event('h', 0, 3) + "open(3, 2, 'i', 1) = 1; phaseOf(1) = 0; reserved(7, 2) = 0; "
            + Setup.send(1, 4) + "frame() = 1; taken(3, 2) = 1; frame() = 1; taken(3, 2) = 2; "
            + "open(3, 3, 's', 2) = 2; reserved(0, -1) = 10; " + Setup.ask(2, 3) + "frame() = 0; waiting(3, 3) = 1; "
            + "frame() = 1; waiting(3, 3) = 0; "
            + "got() = 3; " + Setup.event('d', 1, 1) + Setup.event('h', 2, 1));
    }

    private static void shut() {
        Script.run("worn, and it draws too much", worn() + "draw(3, 2) = 0; frame() = 0; stateOf(3) = 's'; "
            + "blame(3) = 2; "
            + "addressOf(3) = 3; driverOf(3) = 0; speedOf(3) = 'f'; stateOf(2) = 'c'; phaseOf(3) = 1; "
            + "reserved(1, 0) = 12; ask(2, 4) = 1; ring(2) = 1; " + Edge.unsupported("sleep(3)", "wake(3)", "sleep(2)")
            + "frame() = 0; got() = 0; draw(2, 5) = 3; frame() = 0; stateOf(2) = 'c'; draw(2, 6) = 5; frame() = 0; "
            + "stateOf(2) = 's'; stateOf(3) = 'u'; blame(2) = 2; blame(3) = 2; " + Setup.event('g', 2, 0)
            + "reserved(1, 0) = 0; reserved(0, 0) = 12; waiting(2, 1) = 3; waiting(3, 1) = 3; " + Setup.ask(0, 1)
            + "frame() = 0; fault(2, 1, 'c', 1) = 1; fault(3, 1, 'c', 1) = 1; unplug(2) = 1; " + Setup.event('g', 0, 0)
            + "plug(2, 0, 0) = 1; fault(2, 0, 'c', 2) = 1; look() = 2; stateOf(2) = 'c'; packets('t') = 30; "
            + "frame() = 0; stateOf(2) = 's'; blame(2) = 3");
        Script.run("worn, and a babble", worn() + "fault(2, 1, 'b', 1) = 1; " + Setup.ask(0, 1) + Setup.ask(2, 1)
            + "frame() = 1; left(-1) = 96; left(0) = 52; stateOf(2) = 's'; stateOf(3) = 'u'; blame(2) = 2; "
            + "blame(3) = 1; "
            + Setup.event('g', 2, 0) + "events() = 0; clear(0) = 1; waiting(2, 1) = 3; got() = 0");
    }

    private static void dead() {
        Script.run("worn, and dead as it is looked at", worn() + "fault(3, 0, 'n', 3) = 2; unplug(3) = 1; "
            + "plug(3, 0, 0) = 1; look() = 3; stateOf(3) = 'x'; blame(3) = 2; addressOf(3) = 0; driverOf(3) = -1; "
            + "speedOf(3) = 'h'; packets('t') = 26; waiting(3, 1) = 3; look() throws NoSuchElementException; "
            + "frame() = 0; unplug(3) = 1; draw(3, 5) = 0; plug(3, 1, 0) = 2; look() = 3; stateOf(3) = 'c'; "
            + "fault(2, 0, 'a', 3) = 1; unplug(2) = 1; plug(2, 0, 1) = 1; plug(3, 0, 0) throws "
            + "UnsupportedOperationException; unplug(3) = 1; plug(3, 2, 1) = 2; look() = 2; stateOf(2) = 'x'; "
            + "stateOf(3) = 'u'; blame(2) = 2; blame(3) = 2; waiting(2, 1) = 3; taken(2, 2) = 1");
        Script.run("worn, and without enough power", worn() + "unplug(2) = 2; plug(3, 0, 0) = 1; "
            + "make('h', 1, 1, false, 0) = 4; plug(4, 0, 1) = 1; look() = 3; look() = 4; plug(2, 4, 0) = 2; "
            + "look() = 2; "
            + "stateOf(2) = 'p'; addressOf(2) = 4; driverOf(2) = -1; blame(2) = 1; "
            + Edge.unsupported("sleep(2)", "open(2, 1, 'b', 0)") + "draw(2, 9) = 3; frame() = 0; stateOf(2) = 'p'");
    }

    private static void pipes() {
        Script.run("worn, and other pipes are opened", worn() + "close(1) = 0; close(0) = 0; reserved(0, -1) = 0; "
            + "reserved(1, -1) = 6; reserved(1, 0) = 12; open(2, 2, 's', 2) = 0; phaseOf(0) = 0; "
            + "open(2, 1, 'i', 1) = 1; "
            + "phaseOf(1) = 0; reserved(0, 0) = 24; reserved(1, 0) = 24; reserved(5, -1) = 12; reserved(3, -1) = 6; "
            + "open(3, 3, 'i', 8) = 4; phaseOf(4) = 3; reserved(3, 0) = 20; reserved(3, -1) = 10; isHalted(4) = false; "
            + Edge.unsupported("open(3, 3, 'b', 0)", "open(2, 1, 'b', 0)", "causeOf(4)", "causeOf(0)")
            + Setup.ask(1, 4) + "frame() = 1; waiting(2, 1) = 3; frame() = 1; left(-1) = 95; left(0) = 50; got() = 3; "
            + Setup.event('h', 1, 3) + "clear(2) = 0; " + Setup.ask(2, 3) + "frame() = 1; frame() = 1; got() = 6; "
            + Setup.event('d', 2, 3) + "isSound() = true");
    }

    private static void transfers() {
        Script.run("worn, and transfers go on by what is told", worn() + Setup.ask(0, 3) + Setup.ask(2, 3)
            + "frame() = 2; left(-1) = 92; left(0) = 44; packets('h') = 7; frame() = 2; left(-1) = 92; "
            + Setup.event('h', 0, 2) + Setup.event('h', 2, 2) + "got() = 4; gotAt(0) = 2; gotAt(1) = 1; "
            + Setup.ask(0, 1) + Setup.ask(2, 1) + "frame() = 2; got() = 6; gotAt(0) = 3; event() = 'd'; event() = 'd'; "
            + Setup.send(1, 5) + Setup.send(3, 6) + "frame() = 1; frame() = 0; frame() = 0; frame() = 1; frame() = 1; "
            + "taken(2, 2) = 1; taken(3, 2) = 2; frame() = 0; frame() = 0; frame() = 1; taken(2, 2) = 2; "
            + "event() = 'd'; "
            + "eventPipe() = 3; event() = 'd'; eventPipe() = 1; frames() = 20");
        Script.run("worn, the last turn is behind it, and a stall of an endpoint that was never in a pipe", worn()
            + "open(3, 3, 'b', 0) = 4; ask(4, 1) = 1; ask(4, 2) = 2; ring(4) = 2; "
            + "frame() = 1; " + Setup.event('s', 4, 0)
            + "isHalted(4) = true; causeOf(4) = 's'; frame() = 0; clear(4) = 1; frame() = 1; " + Setup.event('s', 4, 0)
            + "clear(4) = 0; fault(3, 3, 'n', 1) = 7; fault(3, 1, 'n', 1) = 1; " + Setup.ask(4, 1) + Setup.ask(0, 1)
            + Setup.ask(2, 1) + "fault(2, 1, 'a', 1) = 1; frame() = 3; got() = 2; " + Setup.event('d', 0, 2)
            + "fault(3, 3, 'a', 1) = 0; frame() = 2; got() = 5; gotAt(0) = 7; " + Setup.event('d', 2, 2)
            + Setup.event('d', 4, 1) + "waiting(3, 3) = 1; waiting(2, 1) = 3; waiting(3, 1) = 1");
    }

    private static void refused() {
        Script.run("worn, and what is refused", worn() + "make('h', 0, 1, false, 0) = 4; "
            + Edge.unsupported("plug(3, 2, 0)", "plug(4, 2, 2)", "plug(4, 1, 1)", "plug(2, 0, 0)",
                "endpoint(2, 3, true, 1)",
                "endpoint(3, 1, true, 1)", "wake(2)", "wake(3)", "cancel(0)", "cancel(3)", "send(1)", "taken(3, 1)",
                "waiting(3, 2)", "load(2, 2)", "ask(1, 1)", "causeOf(0)", "open(2, 1, 'i', 1)", "open(3, 2, 'b', 0)")
            + Edge.badIndex("plug(4, 2, 3)", "plug(4, 3, 0)", "plug(4, 1, 2)", "open(2, 3, 'b', 0)",
                "fault(2, 3, 'c', 1)",
                "waiting(2, 3)", "taken(2, 3)", "load(2, 3)", "takenAt(2, 3, 0)")
            + Edge.badArgument("endpoint(3, 1, true, 9)", "open(2, 1, 'q', 1)", "ask(0, 17)", "draw(3, 10)",
                "fault(3, 1, 'c', 10)", "fault(2, 0, 'q', 1)")
            + Edge.noElement("look()", "takenAt(3, 2, 1)", "takenAt(2, 2, 1)", "gotAt(0)", "phaseOf(4)", "close(4)")
            + "ask(0, 1) = 1; " + Edge.unsupported("sleep(2)", "sleep(1)") + "sleep(3) = 1; "
            + Edge.unsupported("sleep(2)", "sleep(3)") + PLACES + BYTES);
    }

    private static void newBelow() {
        Script.run("worn, and others are plugged below it", worn() + """
            make('l', 0, 1, false, 12) = 4; endpoint(4, 1, true, 3) = 1; make('h', 1, 5, true, 22) = 5;
            plug(4, 2, 0) = 3;
            plug(5, 2, 1) = 3; speedOf(4) = 'l'; speedOf(5) = 'f'; translator(4) = 0; translator(5) = 0; look() = 4;
            look() = 5; stateOf(4) = 'c'; stateOf(5) = 'c'; addressOf(4) = 4; addressOf(5) = 5; driverOf(4) = 0;
            driverOf(5) = -1; open(4, 1, 'i', 8) = 4; phaseOf(4) = 2; reserved(2, 0) = 32; reserved(2, -1) = 5;
            sleep(2) = 4; wake(4) = 2; stateOf(3) = 'z'; stateOf(5) = 'z'; stateOf(2) = 'c'; unplug(2) = 4;
            reserved(2, 0) = 0; speedOf(5) = 'h'; stateOf(5) = 'u'; addressOf(1) = 1.
            """);
    }

    private static void many() {
        Script.run("worn, and the checksum, the share and the mean", worn() + "checksum() = "
            + sum("cccc", 0, 1, 102, 103)
            + "; busyShare() = 0.028888889; meanBytes() = 0.5; sleep(2) = 2; "
            + "checksum() = " + sum("cczz", 0, 1, 102, 103)
            + "; unplug(3) = 1; checksum() = " + sum("cczu", 0, 1, 102, 100) + "; meanBytes() = 0.5; unplug(2) = 1; "
            + "checksum() = " + sum("ccuu", 0, 1, 100, 100) + "; frame() = 0; busyShare() = 0.026");
    }

    private static long sum(String states, int... more) {
        long sum = 7;
        for (int i = 0; i < states.length(); i++) {
            sum = 31 * sum + states.charAt(i) + more[i];
        }
        return sum;
    }
}
