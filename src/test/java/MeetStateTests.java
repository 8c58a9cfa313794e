/** Where sentences meet: a device in each state with its pipes, transfers, faults and bytes, and what is told then. */
final class MeetStateTests {
    // Two pipes with transfers, bytes that wait, faults, a driver and an address.
    private static final String BUSY = "driver(0, -1) = 0; " + Setup.device(1, 'f', 0, 8, -8, 8) + """
        open(1, 1, 'b', 0) = 0; open(1, 2, 'i', 2) = 1; reserved(0, -1) = 10; reserved(0, 0) = 20; reserved(1, 0) = 0;
        type(1) = 1; type(2) = 2; load(1, 1) = 2; fault(1, 1, 'n', 5) = 0; fault(1, 2, 'c', 4) = 0; ask(0, 2) = 1;
        type(3) = 1; send(1) = 1; ring(0) = 1; ring(1) = 1;
        """;
    private static final String PLACE = "hubOf(1) = 0; depthOf(1) = 1; speedOf(1) = 'f'; translator(1) = 0; "
        + "addressOf(1) = 1; driverOf(1) = 0; ";
    private static final String PIPES = "phaseOf(0) = -1; phaseOf(1) = 0; isHalted(0) = false; isHalted(1) = false; "
        + "reserved(0, -1) = 10; reserved(6, 0) = 20; reserved(1, -1) = 0; waiting(1, 1) = 2; taken(1, 2) = 0; "
        + Edge.unsupported("causeOf(0)", "open(1, 1, 'b', 0)", "open(1, 3, 'b', 0)", "open(1, 3, 'i', 8)",
            "plug(1, 0, 1)", "plug(1, 0, 0)", "endpoint(1, 3, true, 1)", "sleep(1)");

    private MeetStateTests() {
    }

    static void run() {
        shutWithAll();
        shutAndUnplugged();
        shutHub();
        shutByBabbleInFrame();
        shutOneBehindAnother();
        asleepWithAll();
        asleepAndUnplugged();
        asleepInTree();
        awakeWithAll();
        awakeTwice();
        deadWithAll();
        deadAgain();
        weakWithAll();
        newWithAll();
        unpluggedWithAll();
        unpluggedTree();
        clearedInEachState();
        closedInEachState();
        powerOfPorts();
        addressesOfStates();
        translatorsOfStates();
    }

    private static void shutWithAll() {
        Script.run("a shut device keeps its port, its pipes and all in them", BUSY + "draw(1, 6) = 1; frame() = 0; "
            + "stateOf(1) = 's'; blame(1) = 1; events() = 0; left(-1) = 100; left(0) = 60; " + PLACE + PIPES
            + Edge.unsupported("wake(1)") + "look() throws NoSuchElementException; make('h', 0, 1, false, 0) = 2; "
            + "plug(2, 0, 0) throws UnsupportedOperationException; plug(2, 0, 1) = 1; look() = 2; addressOf(2) = 2; "
            + "ask(0, 3) = 2; ring(0) = 1; type(4) = 1; send(1) = 2; ring(1) = 1; type(5) = 1; load(1, 1) = 3; "
            + "frame() = 0; frame() = 0; frame() = 0; frame() = 0; draw(1, 0) = 6; frame() = 0; stateOf(1) = 's'; "
            + "blame(1) = 1; fault(1, 1, 'n', 1) = 5; fault(1, 2, 'n', 1) = 4; fault(1, 0, 'n', 1) = 0; "
            + "cancel(0) = 0; " + Setup.event('x', 0, 0) + "clear(0) = 1; clear(1) = 2; close(1) = 2; "
            + Setup.event('x', 1, 0) + Setup.event('x', 1, 0) + "reserved(0, -1) = 0; reserved(0, 0) = 0; "
            + Edge.unsupported("open(1, 2, 'b', 0)") + "isSound() = true; busyShare() = 0.0; packets('t') = 10");
    }

    private static void shutAndUnplugged() {
        Script.run("a shut device that is unplugged: its transfers are over by 'g', its bytes and faults stay", BUSY
            + "draw(1, 9) = 1; frame() = 0; unplug(1) = 1; " + Setup.event('g', 0, 0) + Setup.event('g', 1, 0)
            + "events() = 0; stateOf(1) = 'u'; hubOf(1) = -1; depthOf(1) = -1; addressOf(1) = 0; driverOf(1) = -1; "
            + "reserved(0, -1) = 0; reserved(0, 0) = 0; waiting(1, 1) = 2; draw(1, 1) = 9; blame(1) = 1; "
            + Edge.noElement("phaseOf(0)", "phaseOf(1)") + "plug(1, 0, 2) = 1; look() = 1; stateOf(1) = 'c'; "
            + "driverOf(1) = 0; addressOf(1) = 1; open(1, 2, 's', 4) = 0; open(1, 1, 'b', 0) = 1; phaseOf(0) = 0; "
            + Setup.ask(1, 2) + "frame() = 1; fault(1, 1, 'c', 1) = 4; frame() = 1; frame() = 1; got() = 2; "
            + "fault(1, 2, 'c', 1) = 4; meanBytes() = 0.6666666666666666");
    }

    private static void shutHub() {
        Script.run("a hub that is shut keeps its pipes, those below it lose theirs", """
            make('h', 2, 1, false, 0) = 1; endpoint(1, 1, false, 8) = 1; make('f', 0, 1, false, 0) = 2;
            endpoint(2, 1, false, 8) = 1; make('h', 1, 1, false, 0) = 3; make('f', 0, 1, false, 0) = 4;
            endpoint(4, 2, true, 8) = 1; plug(1, 0, 0) = 1; look() = 1; plug(2, 1, 0) = 2; look() = 2;
            plug(3, 1, 1) = 2; look() = 3; plug(4, 3, 0) = 3; look() = 4; open(4, 2, 'i', 4) = 0;
            open(2, 1, 'b', 0) = 1;
            open(1, 1, 's', 8) = 2; reserved(0, -1) = 10; reserved(1, -1) = 10; reserved(0, 3) = 20; ask(0, 1) = 1;
            ask(0, 2) = 2; type(1) = 1; send(1) = 1; type(2) = 1; send(2) = 1; draw(1, 6) = 1; frame() = 0;
            stateOf(1) = 's'; stateOf(2) = 'u'; stateOf(3) = 'u'; stateOf(4) = 'u'; hubOf(4) = -1; blame(1) = 1;
            blame(2) = 0; blame(4) = 0; events() = 3; event() = 'g'; eventPipe() = 0; event() = 'g'; eventPipe() = 0;
            event() = 'g'; eventPipe() = 1; phaseOf(2) = 1; reserved(0, 3) = 0; reserved(0, -1) = 0;
            reserved(1, -1) = 10; clear(2) = 1; plug(2, 1, 0) throws UnsupportedOperationException; plug(3, 0, 1) = 1;
            plug(2, 3, 0) = 2; unplug(1) = 1; event() = 'g'; eventPipe() = 2; reserved(1, -1) = 0; stateOf(3) = 'n'.
            """);
    }

    private static void shutByBabbleInFrame() {
        Script.run("a babble in a frame: the pipes behind it in that frame wait, the units are used", """
            make('h', 1, 1, true, 0) = 1; endpoint(1, 1, true, 4) = 1; endpoint(1, 2, false, 4) = 2;
            make('h', 0, 1, false, 0) = 2; endpoint(2, 1, false, 4) = 1; make('h', 0, 1, false, 0) = 3;
            endpoint(3, 1, false, 4) = 1; plug(1, 0, 0) = 1; plug(2, 1, 0) = 2; plug(3, 0, 1) = 1; look() = 1;
            look() = 3; look() = 2; open(3, 1, 'b', 0) = 0; open(1, 1, 'b', 0) = 1; open(1, 2, 'b', 0) = 2;
            open(2, 1, 'b', 0) = 3; type(1) = 1; type(2) = 2; type(3) = 3; type(4) = 4; type(5) = 5; send(0) = 1;
            type(6) = 1; send(2) = 1; type(7) = 1; send(3) = 1; ask(1, 2) = 1; ring(0) = 1; ring(1) = 1; ring(2) = 1;
            ring(3) = 1; fault(1, 1, 'b', 1) = 0; frame() = 3; left(-1) = 88; stateOf(1) = 's'; stateOf(2) = 'u';
            taken(3, 1) = 5; taken(1, 2) = 0; taken(2, 1) = 0; event() = 'g'; eventPipe() = 3; event() = 'd';
            eventPipe() = 0; events() = 0; busyShare() = 0.12; packets('t') = 18; packets('d') = 2; packets('h') = 2.
            """);
    }

    private static void shutOneBehindAnother() {
        Script.run("devices that draw too much are shut by numbers: those below are blamed if they come first", """
            make('h', 0, 1, false, 0) = 1; make('h', 2, 1, true, 0) = 2; make('h', 0, 1, false, 0) = 3;
            plug(2, 0, 0) = 1; look() = 2; plug(1, 2, 0) = 2; plug(3, 2, 1) = 2; look() = 1; look() = 3;
            draw(1, 6) = 1; draw(3, 6) = 1; frame() = 0; stateOf(1) = 's'; stateOf(3) = 's'; stateOf(2) = 'c';
            unplug(2) = 3; stateOf(1) = 'u'; stateOf(3) = 'u'; blame(1) = 1; blame(3) = 1.
            """);
        Script.run("devices that draw too much are shut by numbers: those below a shut one are not blamed", """
            make('h', 0, 1, false, 0) = 1; make('h', 2, 1, false, 0) = 2; make('h', 0, 1, false, 0) = 3;
            plug(2, 0, 0) = 1; look() = 2; plug(1, 2, 0) = 2; plug(3, 2, 1) = 2; look() = 1; look() = 3;
            draw(1, 2) = 1; draw(2, 6) = 1; draw(3, 2) = 1; frame() = 0; stateOf(2) = 's'; stateOf(1) = 'u';
            stateOf(3) = 'u'; blame(1) = 1; blame(2) = 1; blame(3) = 0.
            """);
    }

    private static void asleepWithAll() {
        Script.run("a device asleep keeps its pipes, and what is put into them waits", BUSY
            + "cancel(0) = 0; cancel(1) = 0; event() = 'x'; event() = 'x'; sleep(1) = 1; stateOf(1) = 'z'; "
            + PLACE + PIPES
            + "ask(0, 2) = 1; ring(0) = 1; type(4) = 1; send(1) = 1; ring(1) = 1; draw(1, 9) = 1; frame() = 0; "
            + "frame() = 0; stateOf(1) = 'z'; blame(1) = 0; left(-1) = 100; fault(1, 1, 'n', 1) = 5; "
            + "fault(1, 2, 'c', 1) = 4; draw(1, 1) = 9; clear(0) = 1; type(5) = 1; load(1, 1) = 3; cancel(1) = 0; "
            + Setup.event('x', 1, 0) + "close(1) = 0; reserved(0, -1) = 0; wake(1) = 1; frame() = 0; frame() = 1; "
            + "packets('h') = 1; frame() = 1; got() = 2; waiting(1, 1) = 1; " + Setup.event('d', 0, 2)
            + "open(1, 2, 'i', 2) = 1");
    }

    private static void asleepAndUnplugged() {
        Script.run("a device asleep that is unplugged, with all below it", """
            make('h', 2, 1, true, 0) = 1; make('h', 0, 1, false, 0) = 2; endpoint(2, 1, true, 8) = 1;
            make('h', 0, 1, false, 0) = 3; plug(1, 0, 0) = 1; look() = 1; plug(2, 1, 0) = 2; look() = 2;
            open(2, 1, 'i', 1) = 0; sleep(1) = 2; plug(3, 1, 1) = 2; look() throws NoSuchElementException;
            ask(0, 3) = 1; ask(0, 4) = 2; ring(0) = 2; wake(3) throws UnsupportedOperationException; unplug(1) = 3;
            event() = 'g'; event() = 'g'; events() = 0; reserved(0, -1) = 0; stateOf(1) = 'u'; stateOf(2) = 'u';
            plug(2, 0, 0) = 1; look() = 2; stateOf(2) = 'c'; addressOf(2) = 1; open(2, 1, 'b', 0) = 0; ask(0, 1) = 1;
            ring(0) = 1; frame() = 1; wake(2) throws UnsupportedOperationException.
            """);
    }

    private static void asleepInTree() {
        Script.run("asleep with a hub: those configured below it, not the others", """
            make('h', 4, 5, false, 0) = 1; make('h', 1, 1, true, 0) = 2; make('h', 0, 2, false, 0) = 3;
            make('h', 0, 1, false, 0) = 4; make('h', 0, 1, false, 0) = 5; make('h', 0, 1, false, 0) = 6;
            plug(1, 0, 0) = 1; look() = 1; plug(2, 1, 0) = 2; look() = 2; plug(3, 1, 1) = 2; look() = 3;
            plug(4, 1, 2) = 2; fault(4, 0, 'c', 3) = 0; look() = 4; plug(5, 1, 3) = 2; look() = 5; plug(6, 2, 0) = 3;
            draw(5, 2) = 1; frame() = 0; sleep(1) = 2; stateOf(1) = 'z'; stateOf(2) = 'z'; stateOf(3) = 'p';
            stateOf(4) = 'x'; stateOf(5) = 's'; stateOf(6) = 'n'; look() throws NoSuchElementException;
            sleep(2) throws UnsupportedOperationException; wake(1) = 1; stateOf(2) = 'z';
            look() throws NoSuchElementException; wake(2) = 1; look() = 6; stateOf(6) = 'c'; sleep(6) = 1; sleep(1) = 2;
            wake(6) = 3; stateOf(1) = 'c'; stateOf(2) = 'c'; stateOf(6) = 'c'; blame(4) = 1; blame(5) = 1.
            """);
        Script.run("a hub is not put asleep with a transfer below it, also in a device that is shut", """
            make('h', 2, 1, true, 0) = 1; make('h', 1, 1, true, 0) = 2; make('h', 0, 1, false, 0) = 3;
            endpoint(3, 1, true, 8) = 1; make('h', 0, 1, false, 0) = 4; endpoint(4, 1, true, 8) = 1; plug(1, 0, 0) = 1;
            plug(2, 1, 0) = 2; plug(3, 2, 0) = 3; plug(4, 0, 1) = 1; look() = 1; look() = 4; look() = 2; look() = 3;
            open(3, 1, 'b', 0) = 0; open(4, 1, 'b', 0) = 1; ask(1, 1) = 1; ask(0, 1) = 1;
            sleep(1) throws UnsupportedOperationException; sleep(2) throws UnsupportedOperationException;
            sleep(3) throws UnsupportedOperationException; draw(3, 6) = 1; frame() = 0; stateOf(3) = 's';
            sleep(1) throws UnsupportedOperationException; sleep(3) throws UnsupportedOperationException;
            cancel(0) = 0; sleep(3) throws UnsupportedOperationException; sleep(1) = 2; stateOf(3) = 's'; cancel(1) = 0;
            sleep(4) = 1.
            """);
    }

    private static void awakeWithAll() {
        Script.run("woken, interrupt and sound pipes too wait for a frame of their phase", """
            make('h', 0, 1, false, 0) = 1; endpoint(1, 1, false, 8) = 1; endpoint(1, 2, false, 8) = 2;
            endpoint(1, 3, true, 8) = 3; plug(1, 0, 0) = 1; look() = 1; open(1, 1, 'i', 2) = 0; open(1, 2, 's', 1) = 1;
            open(1, 3, 'b', 0) = 2; phaseOf(0) = 0; type(1) = 1; load(1, 3) = 1; frame() = 0; sleep(1) = 1;
            type(1) = 1; send(0) = 1; type(2) = 1; send(1) = 1; ask(2, 1) = 1; ring(0) = 1; ring(1) = 1; ring(2) = 1;
            wake(1) = 1; stateOf(1) = 'c'; sleep(1) throws UnsupportedOperationException; fault(1, 2, 'n', 1) = 0;
            frame() = 0; frame() = 2; got() = 1; event() = 'l'; event() = 'd'; eventPipe() = 2; frame() = 1;
            event() = 'd'; eventPipe() = 0; frames() = 4.
            """);
        Script.run("woken, what it draws is looked at in the next frame, though it is not awake yet", BUSY
            + "cancel(0) = 0; cancel(1) = 0; draw(1, 6) = 1; sleep(1) = 1; frame() = 0; ask(0, 1) = 1; wake(1) = 1; "
            + "stateOf(1) = 'c'; open(1, 3, 'b', 0) = 2; frame() = 0; stateOf(1) = 's'; blame(1) = 1; phaseOf(2) = -1");
    }

    private static void awakeTwice() {
        Script.run("woken twice: the later one tells when transactions begin again", """
            make('h', 1, 1, true, 0) = 1; make('h', 0, 1, false, 0) = 2; endpoint(2, 1, false, 8) = 1;
            plug(1, 0, 0) = 1; plug(2, 1, 0) = 2; look() = 1; look() = 2; open(2, 1, 'b', 0) = 0; sleep(1) = 2;
            wake(2) = 2; sleep(2) = 1; wake(2) = 1; type(1) = 1; send(0) = 1; ring(0) = 1; frame() = 0; frame() = 1;
            sleep(1) = 2; wake(2) = 2; type(1) = 1; send(0) = 1; ring(0) = 1; frame() = 0; frame() = 0; frame() = 1;
            frames() = 5.
            """);
    }

    private static void deadWithAll() {
        Script.run("a dead device keeps its port and its bytes, and has no address", """
            driver(0, 0) = 0; make('f', 2, 1, false, 0) = 1; endpoint(1, 1, true, 8) = 1; endpoint(1, 2, false, 8) = 2;
            make('h', 0, 1, false, 0) = 2; make('h', 0, 1, false, 0) = 3; plug(1, 0, 3) = 1; plug(2, 1, 0) = 2;
            plug(3, 0, 0) = 1; fault(1, 0, 's', 4) = 0; look() = 1; stateOf(1) = 'x'; stateOf(2) = 'u'; blame(1) = 1;
            blame(2) = 0; packets('t') = 3; packets('h') = 0; addressOf(1) = 0; driverOf(1) = -1; hubOf(1) = 0;
            depthOf(1) = 1; speedOf(1) = 'f'; translator(1) = 0; checksum() = 9415893; look() = 3; addressOf(3) = 1;
            plug(2, 0, 3) throws UnsupportedOperationException; plug(2, 1, 0) throws UnsupportedOperationException;
            plug(1, 0, 1) throws UnsupportedOperationException; open(1, 1, 'b', 0) throws UnsupportedOperationException;
            sleep(1) throws UnsupportedOperationException; wake(1) throws UnsupportedOperationException;
            endpoint(1, 3, true, 1) throws UnsupportedOperationException; type(7) = 1; load(1, 1) = 1;
            fault(1, 1, 'c', 2) = 0; draw(1, 9) = 1; frame() = 0; stateOf(1) = 'x'; blame(1) = 1; unplug(1) = 1;
            waiting(1, 1) = 1; stateOf(1) = 'u'; fault(1, 0, 'c', 1) = 1; draw(1, 1) = 9; plug(1, 0, 3) = 1; look() = 1;
            stateOf(1) = 'c'; addressOf(1) = 2; driverOf(1) = 0; packets('t') = 14; blame(1) = 1.
            """.replace("9415893", String.valueOf(31L * (31 * (31 * 316L + 'x' + 100) + 'u') + 'n')));
    }

    private static void deadAgain() {
        Script.run("a third failure in a row: faults that are left make it dead once more", """
            make('h', 0, 1, false, 0) = 1; plug(1, 0, 0) = 1; fault(1, 0, 'b', 8) = 0; look() = 1; stateOf(1) = 'x';
            unplug(1) = 1; plug(1, 0, 0) = 1; look() = 1; stateOf(1) = 'x'; blame(1) = 2; packets('t') = 6;
            unplug(1) = 1; plug(1, 0, 0) = 1; look() = 1; stateOf(1) = 'c'; packets('t') = 13; blame(1) = 2;
            addressOf(1) = 1; fault(1, 0, 'c', 1) = 0.
            """);
    }

    private static void weakWithAll() {
        Script.run("a device without enough power keeps its address, and is not talked to", """
            driver(0, 0) = 0; make('h', 2, 1, false, 0) = 1; make('h', 1, 2, false, 0) = 2; endpoint(2, 1, true, 8) = 1;
            make('h', 0, 1, false, 0) = 3; plug(1, 0, 0) = 1; look() = 1; plug(2, 1, 1) = 2; draw(2, 1) = 2; look() = 2;
            stateOf(2) = 'p'; addressOf(2) = 2; driverOf(2) = -1; plug(3, 2, 0) = 3;
            look() throws NoSuchElementException; open(2, 1, 'b', 0) throws UnsupportedOperationException;
            draw(2, 9) = 1;
            frame() = 0; stateOf(2) = 'p'; blame(2) = 0; type(1) = 1; load(2, 1) = 1; sleep(1) = 1; stateOf(2) = 'p';
            wake(2) throws UnsupportedOperationException; wake(1) = 1; unplug(2) = 2; addressOf(2) = 0;
            stateOf(3) = 'u'; draw(2, 1) = 9; plug(2, 0, 1) = 1; look() = 2; stateOf(2) = 'c'; driverOf(2) = 0;
            waiting(2, 1) = 1.
            """);
    }

    private static void newWithAll() {
        Script.run("a new device has no address and no driver, and is not looked at for what it draws", """
            driver(0, 0) = 0; make('f', 1, 1, false, 0) = 1; endpoint(1, 1, true, 8) = 1; make('h', 0, 1, false, 0) = 2;
            plug(1, 0, 0) = 1; plug(2, 1, 0) = 2; stateOf(1) = 'n'; addressOf(1) = 0; driverOf(1) = -1;
            speedOf(1) = 'f';
            speedOf(2) = 'f'; translator(2) = 0; draw(1, 9) = 1; frame() = 0; stateOf(1) = 'n'; blame(1) = 0;
            open(1, 1, 'b', 0) throws UnsupportedOperationException; sleep(1) throws UnsupportedOperationException;
            wake(1) throws UnsupportedOperationException; type(1) = 1; load(1, 1) = 1; look() = 1; stateOf(1) = 'c';
            open(1, 1, 'b', 0) = 0; frame() = 0; stateOf(1) = 's'; stateOf(2) = 'u'; unplug(1) = 1;
            unplug(2) throws UnsupportedOperationException.
            """);
    }

    private static void unpluggedWithAll() {
        Script.run("an unplugged device keeps bytes, faults and what it draws, and runs at its own speed", BUSY
            + "fault(1, 1, 'n', 1) = 5; fault(1, 2, 'c', 1) = 4; fault(1, 0, 'd', 2) = 0; frame() = 1; frame() = 2; "
            + "frame() = 0; frame() = 1; taken(1, 2) = 1; " + Setup.event('d', 0, 2) + Setup.event('d', 1, 1)
            + "type(4) = 1; type(5) = 2; load(1, 1) = 2; fault(1, 1, 'a', 7) = 0; draw(1, 4) = 1; unplug(1) = 1; "
            + "events() = 0; "
            + "stateOf(1) = 'u'; hubOf(1) = -1; depthOf(1) = -1; speedOf(1) = 'f'; addressOf(1) = 0; driverOf(1) = -1; "
            + "taken(1, 2) = 1; takenAt(1, 2, 0) = 3; waiting(1, 1) = 2; draw(1, 5) = 4; fault(1, 1, 'a', 1) = 7; "
            + Edge.unsupported("translator(1)", "open(1, 1, 'b', 0)", "sleep(1)", "wake(1)", "unplug(1)")
            + "type(6) = 1; load(1, 1) = 3; plug(1, 0, 1) = 1; look() = 1; packets('t') = 16; stateOf(1) = 'c'; "
            + "open(1, 1, 'b', 0) = 0; " + Setup.ask(0, 3) + "frame() = 1; got() = 5; gotAt(0) = 6; "
            + Setup.event('d', 0, 3) + "frame() = 0; stateOf(1) = 'c'; " + Setup.ask(0, 1) + "frame() = 2; "
            + "waiting(1, 1) = 0; meanBytes() = 2.0; checksum() = " + sum(31L * 316 + 'c' + 1, 1, 2, 4, 5, 6));
    }

    private static long sum(long start, int... bytes) {
        long sum = start;
        for (int value : bytes) {
            sum = 31 * sum + value;
        }
        return sum;
    }

    private static void unpluggedTree() {
        Script.run("unplugged with all below, in each state; their pipes are closed by the pipes' numbers", """
            make('h', 4, 1, true, 0) = 1; make('h', 0, 1, false, 0) = 2; endpoint(2, 1, true, 8) = 1;
            make('h', 1, 1, true, 0) = 3; endpoint(3, 1, true, 8) = 1; make('h', 0, 1, false, 0) = 4;
            endpoint(4, 1, true, 8) = 1; make('h', 0, 1, false, 0) = 5; plug(1, 0, 0) = 1; look() = 1;
            plug(2, 1, 0) = 2;
            plug(3, 1, 1) = 2; look() = 2; look() = 3; plug(4, 3, 0) = 3; look() = 4; plug(5, 1, 2) = 2;
            open(4, 1, 'b', 0) = 0; open(2, 1, 'b', 0) = 1; open(3, 1, 'b', 0) = 2; close(0) = 0; close(1) = 0;
            open(2, 1, 'b', 0) = 0; open(4, 1, 'b', 0) = 1; ask(2, 1) = 1; ask(1, 1) = 1; ask(1, 2) = 2; ask(0, 1) = 1;
            draw(2, 6) = 1; frame() = 0; stateOf(2) = 's'; unplug(1) = 5; event() = 'g'; eventPipe() = 0; event() = 'g';
            eventPipe() = 1; event() = 'g'; eventPipe() = 1; event() = 'g'; eventPipe() = 2; events() = 0;
            stateOf(5) = 'u'; plug(4, 0, 3) = 1; look() = 4; addressOf(4) = 1.
            """);
    }

    private static void clearedInEachState() {
        String once = Setup.device(1, 'h', 0, 4, -4) + "open(1, 1, 'b', 0) = 0; open(1, 2, 'b', 0) = 1; "
            + "fault(1, 2, 's', 1) = 0; " + Setup.send(1, 1) + "type(2) = 1; send(1) = 2; frame() = 1; event() = 's'; ";
        Script.run("cleared while it is shut", once + "draw(1, 6) = 1; frame() = 0; stateOf(1) = 's'; "
            + "isHalted(1) = true; causeOf(1) = 's'; clear(1) = 1; isHalted(1) = false; causeOf(1) = 's'; ring(1) = 1; "
            + "frame() = 0; cancel(1) = 0; clear(1) = 0");
        Script.run("cleared while it is asleep", once + "cancel(1) = 0; event() = 'x'; sleep(1) = 1; "
            + "isHalted(1) = true; "
            + Setup.send(1, 3) + "wake(1) = 1; frame() = 0; frame() = 0; clear(1) = 1; frame() = 1; taken(1, 2) = 1");
        Script.run("cleared while it is not awake yet", once + "cancel(1) = 0; sleep(1) = 1; wake(1) = 1; "
            + "clear(1) = 0; "
            + Setup.send(1, 3) + "frame() = 0; frame() = 1; taken(1, 2) = 1");
        Script.run("cleared while nothing is wrong: what waits there stays, and stays rung", once + "clear(1) = 1; "
            + "clear(1) = 1; frame() = 0; ring(1) = 1; clear(1) = 1; frame() = 1; taken(1, 2) = 1");
    }

    private static void closedInEachState() {
        String once = Setup.device(1, 'f', 0, 4, -4) + "open(1, 1, 's', 1) = 0; open(1, 2, 'i', 1) = 1; "
            + "fault(1, 2, 's', 1) = 0; " + Setup.send(1, 1) + "type(2) = 1; send(1) = 2; reserved(3, 0) = 24; "
            + "frame() = 1; event() = 's'; ";
        String gone = Setup.event('x', 1, 0) + "events() = 0; reserved(3, -1) = 6; reserved(3, 0) = 12; "
            + Edge.noElement("close(1)", "isHalted(1)", "causeOf(1)");
        Script.run("closed while it is halted", once + "close(1) = 1; " + gone + "open(1, 2, 'b', 0) = 1; "
            + "isHalted(1) = false; causeOf(1) throws UnsupportedOperationException; " + Setup.send(1, 3)
            + "frame() = 1; taken(1, 2) = 1");
        Script.run("closed while it is shut", once + "draw(1, 6) = 1; frame() = 0; close(1) = 1; " + gone
            + "close(0) = 0; reserved(3, -1) = 0; unplug(1) = 1; events() = 0");
        Script.run("closed while it is asleep", once + "cancel(1) = 0; event() = 'x'; sleep(1) = 1; type(3) = 1; "
            + "send(1) = 1; close(1) = 1; " + gone + Edge.unsupported("open(1, 2, 'b', 0)") + "wake(1) = 1; "
            + "open(1, 2, 'b', 0) = 1; frame() = 0; " + Setup.send(1, 3) + "frame() = 1");
        Script.run("closed while it is not awake yet", once + "cancel(1) = 0; event() = 'x'; sleep(1) = 1; "
            + "wake(1) = 1; type(3) = 1; send(1) = 1; close(1) = 1; " + gone + "open(1, 2, 'b', 0) = 1; "
            + Setup.send(1, 3) + "frame() = 0; frame() = 1");
    }

    private static void powerOfPorts() {
        Script.run("a port gives what its hub's own power gives, whatever gives the hub its power", """
            make('h', 1, 1, false, 0) = 1; make('h', 1, 5, true, 0) = 2; make('h', 0, 5, false, 0) = 3;
            plug(1, 0, 0) = 1; look() = 1; plug(2, 1, 0) = 2; look() = 2; stateOf(2) = 'c'; plug(3, 2, 0) = 3;
            look() = 3; stateOf(3) = 'c'; frame() = 0; stateOf(3) = 'c'; draw(2, 9) = 0; frame() = 0; stateOf(2) = 'c';
            draw(1, 5) = 1; frame() = 0; stateOf(1) = 'c'; draw(3, 6) = 5; frame() = 0; stateOf(3) = 's'; blame(3) = 1;
            stateOf(2) = 'c'; stateOf(1) = 'c'.
            """);
    }

    private static void addressesOfStates() {
        Script.run("an address is free again as its device is unplugged, not as it is shut or asleep", """
            make('h', 0, 1, false, 0) = 1; make('h', 0, 1, false, 0) = 2; make('h', 0, 1, false, 0) = 3;
            make('h', 0, 1, false, 0) = 4; plug(1, 0, 0) = 1; plug(2, 0, 1) = 1; plug(3, 0, 2) = 1; look() = 1;
            look() = 2; sleep(2) = 1; draw(1, 6) = 1; frame() = 0; look() = 3; addressOf(3) = 3; unplug(1) = 1;
            plug(4, 0, 0) = 1; look() = 4; addressOf(4) = 1; unplug(2) = 1; plug(1, 0, 1) = 1; look() = 1;
            addressOf(1) = 2; addressOf(2) = 0; isSound() = true.
            """);
    }

    private static void translatorsOfStates() {
        Script.run("a hub that is not configured translates no less, and reserves for those below it alone", """
            make('h', 2, 1, true, 0) = 1; make('f', 1, 1, true, 0) = 2; make('h', 0, 1, false, 0) = 3;
            endpoint(3, 1, true, 2) = 1; plug(1, 0, 0) = 1; plug(2, 1, 0) = 2; plug(3, 2, 0) = 3; stateOf(1) = 'n';
            translator(3) = 1; translator(2) = 1; translator(1) = 0; look() = 1; look() = 2; look() = 3;
            open(3, 1, 'i', 1) = 0; reserved(5, 1) = 8; reserved(5, 0) = 0; reserved(5, 2) = 0; type(1) = 1;
            load(3, 1) = 1; ask(0, 1) = 1; ring(0) = 1; frame() = 1; left(1) = 54; left(0) = 60; left(2) = 60;
            left(3) = 60; unplug(1) = 3; left(1) = 54; reserved(5, 1) = 0; translator(3)
            throws UnsupportedOperationException; frame() = 0; left(1) = 60.
            """);
    }
}
