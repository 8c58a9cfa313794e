/** Promises 1 to 17: devices, the tree, looking, drivers, power and sleep. */
final class DeviceTests {
    private DeviceTests() {
    }

    static void run() {
        newObject();
        make();
        endpoint();
        plug();
        depthIsBounded();
        unplug();
        unplugEndsTransfers();
        whatStaysWhenUnplugged();
        places();
        look();
        lookOrder();
        lookFaults();
        addresses();
        power();
        drivers();
        draw();
        drawOfHub();
        sleep();
        wake();
        wakeOfMany();
    }

    private static void newObject() {
        Script.run("1 a new object", """
            stateOf(0) = 'c'; hubOf(0) = -1; depthOf(0) = 0; speedOf(0) = 'h'; addressOf(0) = 0; driverOf(0) = -1;
            blame(0) = 0; stateOf(1) throws IndexOutOfBoundsException; frames() = 0; events() = 0; missed() = 0;
            got() = 0; packets('t') = 0; packets('d') = 0; packets('h') = 0; reserved(0, -1) = 0; reserved(7, 0) = 0;
            look() throws NoSuchElementException; left(-1) throws NoSuchElementException; wipe() = 0; stuffed() = 0;
            sixteen() = 0; phaseOf(0) throws NoSuchElementException; event() throws NoSuchElementException;
            busyShare() throws ArithmeticException; meanBytes() throws ArithmeticException; checksum() = 316;
            isSound() = true; make('h', 0, 1, false, 0) = 1; plug(1, 0, 4) throws IndexOutOfBoundsException;
            plug(1, 0, 3) = 1.
            """);
    }

    private static void make() {
        Script.run("2 make", """
            make('l', 0, 1, false, 0) = 1; make('f', 4, 5, true, 99) = 2; make('h', 0, 3, false, 57) = 3;
            stateOf(1) = 'u'; stateOf(2) = 'u'; speedOf(1) = 'l'; speedOf(2) = 'f'; speedOf(3) = 'h';
            make('x', 0, 1, false, 0) throws IllegalArgumentException;
            make('H', 0, 1, false, 0) throws IllegalArgumentException;
            make('l', 1, 1, false, 0) throws IllegalArgumentException;
            make('f', -1, 1, false, 0) throws IllegalArgumentException;
            make('f', 5, 1, false, 0) throws IllegalArgumentException;
            make('f', 0, 0, false, 0) throws IllegalArgumentException;
            make('f', 0, 6, true, 0) throws IllegalArgumentException;
            make('f', 0, 1, false, -1) throws IllegalArgumentException;
            make('f', 0, 1, false, 100) throws IllegalArgumentException; make('f', 0, 1, false, 1) = 4.
            """);
        StringBuilder many = new StringBuilder();
        for (int i = 1; i < 16; i++) {
            many.append("make('f', 0, 1, false, 0) = ").append(i).append("; ");
        }
        Script.run("2 make, sixteen", many + """
            stateOf(15) = 'u'; make('f', 0, 1, false, 0) throws IllegalStateException;
            make('l', 1, 1, false, 0) throws IllegalArgumentException;
            stateOf(16) throws IndexOutOfBoundsException.
            """);
    }

    private static void endpoint() {
        Script.run("3 endpoint", """
            make('f', 0, 1, false, 0) = 1; endpoint(1, 3, true, 8) = 1; endpoint(1, 1, false, 1) = 2;
            endpoint(1, 1, true, 1) throws UnsupportedOperationException;
            endpoint(1, 0, true, 1) throws IllegalArgumentException;
            endpoint(1, 4, true, 1) throws IllegalArgumentException;
            endpoint(1, 2, true, 0) throws IllegalArgumentException;
            endpoint(1, 2, true, 9) throws IllegalArgumentException;
            endpoint(2, 0, true, 9) throws IndexOutOfBoundsException;
            endpoint(-1, 1, true, 1) throws IndexOutOfBoundsException;
            endpoint(0, 1, true, 1) throws UnsupportedOperationException;
            endpoint(0, 0, true, 1) throws IllegalArgumentException;
            waiting(1, 3) = 0; taken(1, 1) = 0; waiting(1, 2) throws IndexOutOfBoundsException;
            waiting(1, 1) throws UnsupportedOperationException;
            plug(1, 0, 0) = 1; endpoint(1, 2, true, 1) throws UnsupportedOperationException;
            unplug(1) = 1; endpoint(1, 2, true, 1) = 3.
            """);
    }

    private static void plug() {
        Script.run("4 plug", """
            make('h', 2, 1, true, 0) = 1; make('f', 1, 1, false, 0) = 2; make('l', 0, 1, false, 0) = 3;
            plug(2, 1, 0) throws UnsupportedOperationException; plug(1, 1, 0) throws UnsupportedOperationException;
            plug(4, 0, 0) throws IndexOutOfBoundsException; plug(-1, 0, 0) throws IndexOutOfBoundsException;
            plug(1, 4, 0) throws IndexOutOfBoundsException; plug(1, -1, 0) throws IndexOutOfBoundsException;
            plug(1, 0, -1) throws IndexOutOfBoundsException; plug(1, 0, 4) throws IndexOutOfBoundsException;
            plug(0, 0, 0) throws UnsupportedOperationException; plug(0, 3, 0) throws IndexOutOfBoundsException;
            plug(1, 0, 3) = 1; stateOf(1) = 'n'; plug(2, 0, 3) throws UnsupportedOperationException;
            plug(2, 1, 2) throws IndexOutOfBoundsException; plug(2, 1, 1) = 2;
            plug(2, 1, 0) throws UnsupportedOperationException; plug(3, 2, 0) = 3; stateOf(3) = 'n';
            hubOf(3) = 2; unplug(3) = 1; plug(2, 3, 0) throws IndexOutOfBoundsException; plug(3, 0, 0) = 1.
            """);
        Script.run("4 plug, hubs that are shut or dead", """
            make('h', 2, 1, false, 0) = 1; make('h', 2, 1, false, 0) = 2; make('h', 0, 1, false, 0) = 3;
            plug(1, 0, 0) = 1; plug(2, 0, 1) = 1; fault(2, 0, 'c', 3) = 0; look() = 1; look() = 2; stateOf(2) = 'x';
            plug(3, 2, 0) throws UnsupportedOperationException; draw(1, 6) = 1; frame() = 0; stateOf(1) = 's';
            plug(3, 1, 0) throws UnsupportedOperationException; unplug(1) = 1; plug(1, 0, 0) = 1; plug(3, 1, 0) = 2.
            """);
        Script.run("4 plug, hubs asleep or weak", """
            make('h', 2, 1, false, 0) = 1; make('h', 2, 2, false, 0) = 2; make('h', 0, 1, false, 0) = 3;
            plug(1, 0, 0) = 1; look() = 1; plug(2, 1, 0) = 2; look() = 2; stateOf(2) = 'p'; plug(3, 2, 1) = 3;
            look() throws NoSuchElementException; unplug(3) = 1; sleep(1) = 1; plug(3, 1, 1) = 2;
            look() throws NoSuchElementException; wake(1) = 1; look() = 3.
            """);
    }

    private static void depthIsBounded() {
        Script.run("4 plug, the depth", """
            make('h', 1, 1, true, 0) = 1; make('h', 1, 1, true, 0) = 2; make('h', 1, 1, true, 0) = 3;
            make('h', 1, 1, true, 0) = 4; make('h', 1, 1, true, 0) = 5; make('h', 0, 1, true, 0) = 6;
            plug(1, 0, 0) = 1; plug(2, 1, 0) = 2; plug(3, 2, 0) = 3; plug(4, 3, 0) = 4; plug(5, 4, 0) = 5;
            plug(6, 5, 0) throws UnsupportedOperationException; depthOf(5) = 5; depthOf(6) = -1; unplug(1) = 5;
            plug(5, 0, 0) = 1; plug(6, 5, 0) = 2.
            """);
    }

    private static void unplug() {
        Script.run("5 unplug", """
            make('h', 2, 1, true, 0) = 1; make('h', 1, 1, true, 0) = 2; make('f', 0, 1, false, 0) = 3;
            make('f', 0, 1, false, 0) = 4; unplug(0) throws IndexOutOfBoundsException;
            unplug(-1) throws IndexOutOfBoundsException; unplug(5) throws IndexOutOfBoundsException;
            unplug(1) throws UnsupportedOperationException; plug(1, 0, 0) = 1; plug(2, 1, 0) = 2; plug(3, 2, 0) = 3;
            plug(4, 0, 1) = 1; unplug(1) = 3; stateOf(1) = 'u'; stateOf(2) = 'u'; stateOf(3) = 'u'; stateOf(4) = 'n';
            hubOf(3) = -1; depthOf(3) = -1; unplug(3) throws UnsupportedOperationException; plug(4, 0, 0)
            throws UnsupportedOperationException; plug(3, 0, 0) = 1; unplug(4) = 1.
            """);
    }

    private static void unplugEndsTransfers() {
        Script.run("5 unplug, pipes", """
            make('h', 2, 1, true, 0) = 1; make('h', 0, 1, false, 0) = 2; make('h', 0, 1, false, 0) = 3;
            endpoint(1, 1, false, 8) = 1; endpoint(2, 1, false, 8) = 1; endpoint(2, 2, true, 8) = 2;
            endpoint(3, 1, true, 8) = 1; plug(1, 0, 0) = 1; plug(2, 1, 0) = 2; plug(3, 0, 1) = 1;
            look() = 1; look() = 3; look() = 2; open(2, 2, 'i', 2) = 0; open(3, 1, 'b', 0) = 1;
            open(1, 1, 'b', 0) = 2; open(2, 1, 'b', 0) = 3; reserved(0, -1) = 10;
            ask(0, 5) = 1; ask(0, 6) = 2; ask(1, 7) = 1; type(1) = 1; send(2) = 1; type(1) = 1; send(3) = 1;
            ring(0) = 2; unplug(1) = 2; reserved(0, -1) = 0; events() = 4;
            event() = 'g'; eventPipe() = 0; event() = 'g'; eventPipe() = 0; eventBytes() = 0;
            event() = 'g'; eventPipe() = 2; event() = 'g'; eventPipe() = 3; phaseOf(0) throws NoSuchElementException;
            phaseOf(1) = -1; phaseOf(2) throws NoSuchElementException; meanBytes() = 0.0; cancel(1) = 0.
            """);
    }

    private static void whatStaysWhenUnplugged() {
        Script.run("5 unplug, what stays", """
            make('h', 0, 1, false, 10) = 1; endpoint(1, 1, true, 8) = 1; endpoint(1, 2, false, 8) = 2;
            driver(1, 0) = 0; plug(1, 0, 0) = 1; look() = 1; driverOf(1) = 0; addressOf(1) = 1;
            type(3) = 1; load(1, 1) = 1; open(1, 2, 'b', 0) = 0; type(4) = 1; send(0) = 1; ring(0) = 1; frame() = 1;
            taken(1, 2) = 1; fault(1, 1, 'n', 4) = 0; fault(1, 0, 'n', 2) = 0; draw(1, 5) = 1; unplug(1) = 1;
            driverOf(1) = -1; addressOf(1) = 0; waiting(1, 1) = 1; taken(1, 2) = 1; takenAt(1, 2, 0) = 4;
            load(1, 1) = 1; fault(1, 1, 'n', 1) = 4; draw(1, 2) = 5; plug(1, 0, 2) = 1; packets('t') = 6; look() = 1;
            packets('t') = 13; driverOf(1) = 0; frame() = 0; stateOf(1) = 'c'.
            """);
    }

    private static void places() {
        Script.run("6 to 10: state, hub, depth, speed and translator", """
            make('h', 2, 1, true, 0) = 1; make('f', 2, 1, true, 0) = 2; make('h', 2, 1, true, 0) = 3;
            make('h', 0, 1, true, 0) = 4; make('l', 0, 1, true, 0) = 5; plug(1, 0, 1) = 1; plug(2, 1, 0) = 2;
            plug(3, 2, 0) = 3; plug(4, 3, 0) = 4; plug(5, 3, 1) = 4;
            hubOf(1) = 0; hubOf(4) = 3; depthOf(1) = 1; depthOf(5) = 4;
            speedOf(1) = 'h'; speedOf(2) = 'f'; speedOf(3) = 'f'; speedOf(4) = 'f'; speedOf(5) = 'l';
            translator(1) = 0; translator(2) = 1; translator(3) = 1; translator(4) = 1; translator(5) = 1;
            unplug(3) = 3; speedOf(3) = 'h'; speedOf(4) = 'h'; translator(4) throws UnsupportedOperationException;
            plug(4, 1, 1) = 2; translator(4) = 1; speedOf(4) = 'h';
            translator(0) throws UnsupportedOperationException; translator(6) throws IndexOutOfBoundsException;
            translator(-1) throws IndexOutOfBoundsException; stateOf(6) throws IndexOutOfBoundsException;
            stateOf(-1) throws IndexOutOfBoundsException; hubOf(6) throws IndexOutOfBoundsException;
            hubOf(-1) throws IndexOutOfBoundsException; depthOf(6) throws IndexOutOfBoundsException;
            depthOf(-1) throws IndexOutOfBoundsException; speedOf(6) throws IndexOutOfBoundsException;
            speedOf(-1) throws IndexOutOfBoundsException; addressOf(6) throws IndexOutOfBoundsException;
            addressOf(-1) throws IndexOutOfBoundsException; driverOf(6) throws IndexOutOfBoundsException;
            driverOf(-1) throws IndexOutOfBoundsException.
            """);
    }

    private static void look() {
        Script.run("12 look", """
            make('h', 1, 1, false, 0) = 1; make('h', 0, 1, false, 0) = 2; look() throws NoSuchElementException;
            plug(1, 0, 0) = 1; plug(2, 1, 0) = 2; stateOf(2) = 'n'; addressOf(1) = 0; look() = 1; stateOf(1) = 'c';
            addressOf(1) = 1; packets('t') = 5; look() = 2; packets('t') = 10; stateOf(2) = 'c'; addressOf(2) = 2;
            look() throws NoSuchElementException; packets('d') = 0; packets('h') = 0; frames() = 0.
            """);
        Script.run("second example of the document", """
            type(255) = 1; stuffed() = 9; five(0) = 8; make('f', 2, 3, false, 0) = 1; make('f', 0, 2, false, 0) = 2;
            plug(1, 0, 0) = 1; plug(2, 1, 1) = 2; look() = 1; look() = 2; stateOf(2) = 'p'.
            """);
    }

    private static void lookOrder() {
        Script.run("12 look, the order", """
            make('f', 0, 1, false, 0) = 1; make('f', 0, 1, false, 0) = 2; make('h', 3, 1, true, 0) = 3;
            make('f', 0, 1, false, 0) = 4; make('f', 0, 1, false, 0) = 5; plug(3, 0, 0) = 1; look() = 3;
            plug(1, 3, 0) = 2; plug(5, 0, 3) = 1; plug(4, 0, 2) = 1; plug(2, 3, 2) = 2;
            look() = 4; look() = 5; look() = 1; look() = 2; look() throws NoSuchElementException.
            """);
    }

    private static void lookFaults() {
        Script.run("12 look, failures", """
            make('h', 0, 1, false, 0) = 1; plug(1, 0, 0) = 1; fault(1, 0, 'd', 2) = 0; look() = 1; stateOf(1) = 'c';
            packets('t') = 7; blame(1) = 0; unplug(1) = 1; plug(1, 0, 0) = 1; fault(1, 0, 's', 4) = 0; look() = 1;
            stateOf(1) = 'x'; addressOf(1) = 0; packets('t') = 10; blame(1) = 1; look() throws NoSuchElementException;
            unplug(1) = 1; plug(1, 0, 0) = 1; look() = 1; stateOf(1) = 'c'; packets('t') = 16;
            fault(1, 0, 'b', 1) = 0; fault(1, 0, 't', 3) = 1; unplug(1) = 1; plug(1, 0, 0) = 1; look() = 1;
            stateOf(1) = 'x'; blame(1) = 2.
            """);
        Script.run("12 look, a dead hub loses its devices", """
            make('h', 2, 1, true, 0) = 1; make('h', 0, 1, true, 0) = 2; plug(1, 0, 0) = 1; plug(2, 1, 0) = 2;
            fault(1, 0, 'n', 3) = 0; look() = 1; stateOf(1) = 'x'; stateOf(2) = 'u'; hubOf(2) = -1; hubOf(1) = 0.
            """);
    }

    private static void addresses() {
        Script.run("11 addressOf", """
            make('h', 0, 1, false, 0) = 1; make('h', 0, 1, false, 0) = 2; make('h', 0, 1, false, 0) = 3;
            plug(1, 0, 0) = 1; plug(2, 0, 1) = 1; look() = 1; look() = 2; addressOf(1) = 1; addressOf(2) = 2;
            unplug(1) = 1; addressOf(1) = 0; plug(3, 0, 3) = 1; look() = 3; addressOf(3) = 1; plug(1, 0, 0) = 1;
            addressOf(1) = 0; look() = 1; addressOf(1) = 3; draw(2, 9) = 1; frame() = 0; stateOf(2) = 's';
            addressOf(2) = 2; addressOf(0) = 0.
            """);
    }

    private static void power() {
        Script.run("12 look, power", """
            make('h', 4, 5, false, 0) = 1; make('h', 0, 1, false, 30) = 2; make('h', 0, 2, false, 30) = 3;
            make('h', 0, 5, true, 30) = 4; driver(3, 0) = 0; plug(1, 0, 0) = 1; plug(2, 1, 0) = 2; plug(3, 1, 1) = 2;
            plug(4, 1, 2) = 2; look() = 1; stateOf(1) = 'c'; look() = 2; stateOf(2) = 'c'; look() = 3;
            stateOf(3) = 'p'; addressOf(3) = 3; driverOf(3) = -1; look() = 4; stateOf(4) = 'c'; driverOf(4) = 0;
            addressOf(4) = 4; sleep(3) throws UnsupportedOperationException;
            wake(3) throws UnsupportedOperationException.
            """);
    }

    private static void drivers() {
        Script.run("13 driver and 14 driverOf", """
            driver(2, -1) = 0; driver(3, 4) = 1; driver(2, 5) = 2; driver(2, 5) = 3; driver(2, -1) = 4;
            driver(-1, 0) throws IllegalArgumentException; driver(10, 0) throws IllegalArgumentException;
            driver(0, -2) throws IllegalArgumentException; driver(0, 10) throws IllegalArgumentException;
            make('h', 0, 1, false, 25) = 1; make('h', 0, 1, false, 26) = 2; make('h', 0, 1, false, 33) = 3;
            make('h', 0, 1, false, 34) = 4; plug(1, 0, 0) = 1; plug(2, 0, 1) = 1; plug(3, 0, 2) = 1; plug(4, 0, 3) = 1;
            driverOf(1) = -1; look() = 1; look() = 2; look() = 3; look() = 4; driverOf(1) = 2; driverOf(2) = 0;
            driverOf(3) = -1; driverOf(4) = 1; driver(3, 3) = 5; driverOf(3) = -1; driver(9, 9) = 6; driver(0, 0) = 7;
            driver(0, 1) throws IllegalStateException; driver(10, 1) throws IllegalArgumentException; unplug(3) = 1;
            plug(3, 0, 2) = 1; look() = 3; driverOf(3) = 5.
            """);
    }

    private static void draw() {
        Script.run("15 draw", """
            make('h', 0, 3, false, 0) = 1; make('h', 0, 4, true, 0) = 2; draw(0, 1) throws IndexOutOfBoundsException;
            draw(3, 1) throws IndexOutOfBoundsException; draw(-1, 1) throws IndexOutOfBoundsException;
            draw(0, 10) throws IndexOutOfBoundsException; draw(1, -1) throws IllegalArgumentException;
            draw(1, 10) throws IllegalArgumentException; draw(1, 0) = 3; draw(1, 5) = 0; draw(2, 9) = 0;
            draw(2, 9) = 0; plug(1, 0, 0) = 1; plug(2, 0, 1) = 1; look() = 1; look() = 2; frame() = 0;
            stateOf(1) = 'c'; draw(1, 6) = 5; stateOf(1) = 'c'; frame() = 0; stateOf(1) = 's'; stateOf(2) = 'c';
            blame(1) = 1; blame(2) = 0; frame() = 0; blame(1) = 1; hubOf(1) = 0; unplug(1) = 1; draw(1, 9) = 6;
            plug(1, 0, 0) = 1; frame() = 0; stateOf(1) = 'n'; look() = 1; stateOf(1) = 'c'; frame() = 0;
            stateOf(1) = 's'; blame(1) = 2.
            """);
    }

    private static void drawOfHub() {
        Script.run("15 draw, hubs are shut by numbers", """
            make('h', 2, 1, false, 0) = 1; make('h', 0, 1, false, 0) = 2; make('h', 0, 1, false, 0) = 3;
            endpoint(2, 1, true, 8) = 1; plug(1, 0, 0) = 1; plug(2, 1, 0) = 2; plug(3, 1, 1) = 2; look() = 1;
            look() = 2; look() = 3; open(2, 1, 'b', 0) = 0; ask(0, 4) = 1; draw(2, 2) = 1; draw(1, 6) = 1;
            frame() = 0; stateOf(1) = 's'; stateOf(2) = 'u'; stateOf(3) = 'u'; blame(1) = 1; blame(2) = 0;
            event() = 'g'; phaseOf(0) throws NoSuchElementException.
            """);
        Script.run("15 draw, a hub behind its device", """
            make('h', 0, 1, false, 0) = 1; make('h', 2, 1, false, 0) = 2; plug(2, 0, 0) = 1; plug(1, 2, 0) = 2;
            look() = 2; look() = 1; draw(1, 2) = 1; draw(2, 6) = 1; frame() = 0; stateOf(2) = 's'; stateOf(1) = 'u';
            blame(1) = 1; blame(2) = 1.
            """);
    }

    private static void sleep() {
        Script.run("16 sleep", """
            make('h', 3, 1, true, 0) = 1; make('h', 0, 1, false, 0) = 2; make('h', 0, 1, false, 0) = 3;
            endpoint(2, 1, true, 8) = 1; make('h', 0, 1, false, 0) = 4; sleep(0) throws IndexOutOfBoundsException;
            sleep(5) throws IndexOutOfBoundsException; sleep(-1) throws IndexOutOfBoundsException;
            sleep(1) throws UnsupportedOperationException; plug(1, 0, 0) = 1;
            sleep(1) throws UnsupportedOperationException; plug(2, 1, 0) = 2; plug(3, 1, 1) = 2; look() = 1;
            look() = 2; look() = 3; plug(4, 1, 2) = 2; open(2, 1, 'b', 0) = 0; ask(0, 1) = 1;
            sleep(1) throws UnsupportedOperationException; sleep(2) throws UnsupportedOperationException;
            sleep(3) = 1; sleep(3) throws UnsupportedOperationException; cancel(0) = 0; sleep(1) = 2;
            stateOf(1) = 'z'; stateOf(2) = 'z'; stateOf(3) = 'z'; stateOf(4) = 'n'; draw(2, 9) = 1; frame() = 0;
            stateOf(2) = 'z'; blame(2) = 0; phaseOf(0) = -1; ask(0, 3) = 1; ring(0) = 1; frame() = 0;
            open(2, 1, 'b', 0) throws UnsupportedOperationException.
            """);
        Script.run("16 sleep, a shut device below has a transfer", """
            make('h', 3, 1, true, 0) = 1; make('h', 0, 1, false, 0) = 2; endpoint(2, 1, true, 8) = 1;
            plug(1, 0, 0) = 1; plug(2, 1, 0) = 2; look() = 1; look() = 2; open(2, 1, 'b', 0) = 0; ask(0, 1) = 1;
            draw(2, 9) = 1; frame() = 0; stateOf(2) = 's'; sleep(1) throws UnsupportedOperationException;
            cancel(0) = 0; sleep(1) = 1; stateOf(2) = 's'.
            """);
    }

    private static void wake() {
        Script.run("17 wake", """
            make('h', 0, 1, false, 0) = 1; endpoint(1, 1, false, 8) = 1; plug(1, 0, 0) = 1; look() = 1;
            open(1, 1, 'b', 0) = 0; wake(1) throws UnsupportedOperationException;
            wake(0) throws UnsupportedOperationException; wake(2) throws IndexOutOfBoundsException;
            wake(-1) throws IndexOutOfBoundsException; sleep(1) = 1; type(1) = 1; send(0) = 1; ring(0) = 1;
            frame() = 0; wake(1) = 1; stateOf(1) = 'c'; frame() = 0; frame() = 1; event() = 'd'; taken(1, 1) = 1;
            left(-1) = 97; draw(1, 9) = 1; sleep(1) = 1; frame() = 0; wake(1) = 1; frame() = 0; stateOf(1) = 's'.
            """);
        Script.run("17 wake, plugged anew", """
            make('h', 0, 1, false, 0) = 1; endpoint(1, 1, false, 8) = 1; plug(1, 0, 0) = 1; look() = 1; sleep(1) = 1;
            wake(1) = 1; unplug(1) = 1; plug(1, 0, 0) = 1; look() = 1; open(1, 1, 'b', 0) = 0; type(1) = 1;
            send(0) = 1; ring(0) = 1; frame() = 1.
            """);
    }

    private static void wakeOfMany() {
        Script.run("17 wake, those above", """
            make('h', 2, 1, true, 0) = 1; make('h', 2, 1, true, 0) = 2; make('h', 0, 1, false, 0) = 3;
            make('h', 0, 1, false, 0) = 4; endpoint(3, 1, false, 8) = 1; endpoint(1, 1, false, 8) = 1;
            plug(1, 0, 0) = 1; plug(2, 1, 0) = 2; plug(3, 2, 0) = 3; plug(4, 2, 1) = 3; look() = 1; look() = 2;
            look() = 3; look() = 4; open(3, 1, 'b', 0) = 0; open(1, 1, 'b', 0) = 1; sleep(1) = 4;
            type(5) = 1; send(0) = 1; ring(0) = 1; type(6) = 1; send(1) = 1; ring(1) = 1; frame() = 0;
            wake(3) = 3; stateOf(1) = 'c'; stateOf(2) = 'c'; stateOf(3) = 'c'; stateOf(4) = 'z';
            frame() = 1; taken(1, 1) = 1; frame() = 0; frame() = 0; frame() = 1; taken(3, 1) = 1; wake(4) = 1;
            sleep(2) = 3; stateOf(1) = 'c'; wake(2) = 1; stateOf(3) = 'z'.
            """);
    }
}
