/** Promises 43, 44, 46 to 49, 53 and 54: bytes that came, what the sniffer counts, and sums over the bus. */
final class SnifferTests {
    private SnifferTests() {
    }

    static void run() {
        taken();
        lastOfTaken();
        got();
        packets();
        blame();
        checksum();
        soundness();
    }

    private static void taken() {
        Script.run("43 taken and 44 takenAt", Setup.device(1, 'h', 0, -8, 8) + """
            taken(1, 1) = 0; takenAt(1, 1, 0) throws NoSuchElementException;
            taken(1, 2) throws UnsupportedOperationException; takenAt(1, 2, 0) throws UnsupportedOperationException;
            taken(1, 3) throws IndexOutOfBoundsException; takenAt(1, 3, 0) throws IndexOutOfBoundsException;
            taken(2, 1) throws IndexOutOfBoundsException; takenAt(2, 1, 0) throws IndexOutOfBoundsException;
            taken(-1, 1) throws IndexOutOfBoundsException; takenAt(-1, 1, 0) throws IndexOutOfBoundsException;
            taken(1, 0) throws IndexOutOfBoundsException; takenAt(1, 4, 0) throws IndexOutOfBoundsException;
            open(1, 1, 'b', 0) = 0;
            """ + Setup.send(0, 11, 12) + """
            frame() = 1; taken(1, 1) = 2; takenAt(1, 1, 0) = 12; takenAt(1, 1, 1) = 11; takenAt(1, 1, 2)
            throws NoSuchElementException; takenAt(1, 1, -1) throws NoSuchElementException.
            """);
    }

    private static void lastOfTaken() {
        String bytes = Setup.send(0, 1, 2, 3, 4, 5, 6, 7, 8, 9, 10, 11, 12, 13, 14, 15, 16);
        Script.run("44 takenAt, the last 32", Setup.device(1, 'h', 0, -8, 8) + "open(1, 1, 'b', 0) = 0; " + bytes
            + "frame() = 2; " + bytes + "frame() = 2; takenAt(1, 1, 31) = 1; " + Setup.send(0, 99)
            + "frame() = 1; taken(1, 1) = 33; takenAt(1, 1, 0) = 99; takenAt(1, 1, 1) = 16; takenAt(1, 1, 31) = 2; "
            + "takenAt(1, 1, 32) throws NoSuchElementException");
    }

    private static void got() {
        int[] bytes = {1, 2, 3, 4, 5, 6, 7, 8, 9, 10, 11, 12, 13, 14, 15, 16};
        Script.run("46 got and 47 gotAt", Setup.device(1, 'h', 0, 8, 8) + """
            got() = 0; gotAt(0) throws NoSuchElementException; gotAt(-1) throws NoSuchElementException;
            open(1, 1, 'b', 0) = 0; open(1, 2, 'b', 0) = 1;
            """ + Setup.load(1, 1, 16, bytes) + Setup.load(1, 1, 32, bytes) + Setup.load(1, 2, 1, 99)
            + Setup.ask(0, 16) + "frame() = 2; got() = 16; gotAt(0) = 16; gotAt(15) = 1; gotAt(16) "
            + "throws NoSuchElementException; " + Setup.ask(1, 1) + "frame() = 1; gotAt(0) = 99; gotAt(16) = 1; "
            + Setup.ask(0, 16) + "frame() = 2; got() = 33; gotAt(31) = 2; gotAt(32) throws NoSuchElementException; "
            + "gotAt(16) = 99");
    }

    private static void packets() {
        Script.run("48 packets", Setup.device(1, 'h', 0, -8, 8) + """
            packets('t') = 5; packets('d') = 0; packets('h') = 0; packets('x') throws IllegalArgumentException;
            packets('T') throws IllegalArgumentException; open(1, 1, 'b', 0) = 0; open(1, 2, 'b', 0) = 1;
            """ + Setup.send(0, 1, 2, 3, 4, 5, 6, 7, 8, 9) + Setup.ask(1, 4) + """
            frame() = 3; packets('t') = 8; packets('d') = 2; packets('h') = 3.
            """);
    }

    private static void blame() {
        Script.run("49 blame", Setup.device(1, 'h', 0, 8) + """
            blame(2) throws IndexOutOfBoundsException; blame(-1) throws IndexOutOfBoundsException; blame(0) = 0;
            blame(1) = 0; fault(1, 1, 't', 2) = 0; open(1, 1, 'b', 0) = 0;
            """ + Setup.load(1, 1, 12, 1, 2, 3, 4, 5, 6, 7, 8, 9, 10, 11, 12) + Setup.ask(0, 4) + """
            frame() = 3; blame(1) = 2; fault(1, 1, 'b', 1) = 0; ask(0, 1) = 1; ring(0) = 1; frame() = 1; blame(1) = 3;
            stateOf(1) = 's'; unplug(1) = 1; plug(1, 0, 0) = 1; fault(1, 0, 'c', 3) = 0; look() = 1; blame(1) = 4;
            unplug(1) = 1; plug(1, 0, 0) = 1; look() = 1; draw(1, 9) = 1; frame() = 0; blame(1) = 5.
            """);
    }

    private static void checksum() {
        long one = 31 * 316 + 'c' + 1;
        long two = 31 * one + 'x' + 100;
        long three = 31 * (31 * two + 21) + 22;
        Script.run("53 checksum", "checksum() = 316; " + Setup.device(1, 'h', 0, 8) + "checksum() = " + one
            + "; make('h', 0, 1, false, 0) = 2; plug(2, 0, 1) = 1; checksum() = " + (31 * one + 'n')
            + "; fault(2, 0, 'c', 3) = 0; look() = 2; checksum() = " + two + "; open(1, 1, 'b', 0) = 0; "
            + Setup.load(1, 1, 2, 21, 22) + Setup.ask(0, 2) + "frame() = 1; checksum() = " + three);
        Hubcascade bus = new Hubcascade();
        bus.make('h', 0, 1, false, 0);
        bus.endpoint(1, 1, true, 8);
        bus.plug(1, 0, 0);
        bus.look();
        bus.open(1, 1, 'b', 0);
        for (int i = 1; i <= 40; i++) {
            bus.type(i);
            bus.load(1, 1);
            bus.ask(0, 1);
            bus.ring(0);
            bus.frame();
        }
        long due = one;
        for (int i = 9; i <= 40; i++) {
            due = 31 * due + i;
        }
        Check.is("53 checksum, the last 32 bytes", bus.checksum(), due);
    }

    // No run of calls makes a bus unsound, so each part is broken from behind.
    private static void soundness() {
        Check.is("54 isSound", brokenBus("", 0, "").isSound(), true);
        Check.is("54 isSound, units of the host", brokenBus("units.host", 3, "").isSound(), false);
        Check.is("54 isSound, units of the host's hub", brokenBus("units.hubs", 0, "").isSound(), false);
        Check.is("54 isSound, units of another translator", brokenBus("units.hubs", 127, "").isSound(), false);
        Check.is("54 isSound, addresses", brokenBus("devices", 1, "address").isSound(), false);
        Check.is("54 isSound, hubs", brokenBus("devices", 1, "hub").isSound(), false);
        Check.is("54 isSound, a hub that is unplugged", brokenBus("devices", 3, "state").isSound(), false);
        Check.is("54 isSound, bytes", brokenBus("devices", 1, "endpoints").isSound(), false);
        Hubcascade bus = brokenBus("", 0, "");
        for (int pipe = 0; pipe < 8; pipe++) {
            Check.is("54 isSound, at the bound", bus.isSound(), true);
            bus.open(1 + pipe / 3, 1 + pipe % 3, 'i', 1);
        }
        Check.is("54 isSound, 80 units of the host", bus.isSound() && bus.reserved(0, -1) == 80, true);
        Inside.set(bus, "devices.1.endpoints.1.greatest", 9);
        Inside.add(bus, "units.host", 0, 1);
        Check.is("54 isSound, out of bounds", bus.isSound(), false);
    }

    private static Hubcascade brokenBus(String row, int index, String field) {
        Hubcascade bus = new Hubcascade();
        for (int device = 1; device <= 3; device++) {
            bus.make('h', 1, 1, false, 0);
            bus.endpoint(device, 1, false, 8);
            bus.endpoint(device, 2, true, 8);
            bus.endpoint(device, 3, true, 8);
            bus.plug(device, 0, device);
            bus.look();
        }
        bus.make('h', 1, 1, false, 0);
        bus.plug(4, 3, 0);
        if (row.startsWith("units")) {
            Inside.add(bus, row, index, 1);
        } else if (field.equals("address")) {
            Inside.set(bus, "devices.1.address", 3);
        } else if (field.equals("hub")) {
            Inside.set(bus, "devices.1.hub", null);
        } else if (field.equals("state")) {
            Inside.set(bus, "devices.3.state", 'u');
        } else if (field.equals("endpoints")) {
            Inside.set(bus, "devices.1.endpoints.0.bytes.total", 1);
        }
        return bus;
    }
}
