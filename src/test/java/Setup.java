/** Writes the calls by which a script comes to a device that can be talked to. */
final class Setup {
    private Setup() {
    }

    /**
     * A device of that number, in a port of the host's hub, configured. An endpoint's greatest packet is negative for
     * one out of the host, 0 for none.
     */
    static String device(int number, char speed, int port, int... endpoints) {
        StringBuilder text = new StringBuilder();
        text.append("make('").append(speed).append("', 0, 1, false, 0) = ").append(number).append("; ");
        int made = 0;
        for (int i = 0; i < endpoints.length; i++) {
            if (endpoints[i] != 0) {
                made++;
                text.append("endpoint(").append(number).append(", ").append(i + 1).append(", ")
                    .append(endpoints[i] > 0).append(", ").append(Math.abs(endpoints[i])).append(") = ").append(made)
                    .append("; ");
            }
        }
        text.append("plug(").append(number).append(", 0, ").append(port).append(") = 1; look() = ").append(number);
        return text.append("; ").toString();
    }

    /**
     * One device in each state, behind the first frame: 1 'c', 2 'p', 3 'n', 4 'x', 5 's', 6 'z' and 7 'u'. Each has 3
     * ports, the endpoint 1 into the host and 2 out of it. Those below the device 1 are 2 in its port 0 and 3 in 1;
     * 1, 4, 5 and 6 are in the ports of the host's hub, in this order.
     */
    static String zoo() {
        StringBuilder text = new StringBuilder();
        for (int i = 1; i <= 7; i++) {
            text.append("make('h', 3, ").append(i == 2 ? 2 : 1).append(", false, 10) = ").append(i).append("; ")
                .append("endpoint(").append(i).append(", 1, true, 8) = 1; ")
                .append("endpoint(").append(i).append(", 2, false, 8) = 2; ");
        }
        return text + """
            plug(1, 0, 0) = 1; plug(4, 0, 1) = 1; plug(5, 0, 2) = 1; plug(6, 0, 3) = 1; fault(4, 0, 'c', 3) = 0;
            look() = 1; look() = 4; look() = 5; look() = 6; sleep(6) = 1; draw(5, 6) = 1; frame() = 0;
            plug(2, 1, 0) = 2; look() = 2; plug(3, 1, 1) = 2; stateOf(1) = 'c'; stateOf(2) = 'p'; stateOf(3) = 'n';
            stateOf(4) = 'x'; stateOf(5) = 's'; stateOf(6) = 'z'; stateOf(7) = 'u';
            """;
    }

    /** A chain of hubs 1 to 5, each with 2 ports and power of its own, looked at, and 6 that is not plugged. */
    static String chain() {
        StringBuilder text = new StringBuilder();
        for (int i = 1; i <= 6; i++) {
            text.append("make('h', 2, 1, true, 0) = ").append(i).append("; endpoint(").append(i)
                .append(", 1, false, 8) = 1; ");
        }
        for (int i = 1; i <= 5; i++) {
            text.append("plug(").append(i).append(", ").append(i - 1).append(", 0) = ").append(i).append("; look() = ")
                .append(i).append("; ");
        }
        return text.toString();
    }

    /** Types these bytes, none being typed before. */
    static String type(int... bytes) {
        StringBuilder text = new StringBuilder();
        for (int i = 0; i < bytes.length; i++) {
            text.append("type(").append(bytes[i]).append(") = ").append(i + 1).append("; ");
        }
        return text.toString();
    }

    /** Loads these bytes, so that as many wait then as is told. */
    static String load(int device, int endpoint, int waiting, int... bytes) {
        return type(bytes) + "load(" + device + ", " + endpoint + ") = " + waiting + "; ";
    }

    /** Sends these bytes by a pipe without transfers, and rings its doorbell. */
    static String send(int pipe, int... bytes) {
        return type(bytes) + "send(" + pipe + ") = 1; ring(" + pipe + ") = 1; ";
    }

    /** Asks a pipe without transfers for bytes, and rings its doorbell. */
    static String ask(int pipe, int bytes) {
        return "ask(" + pipe + ", " + bytes + ") = 1; ring(" + pipe + ") = 1; ";
    }

    /** The next event. */
    static String event(char how, int pipe, int bytes) {
        return "event() = '" + how + "'; eventPipe() = " + pipe + "; eventBytes() = " + bytes + "; ";
    }
}
