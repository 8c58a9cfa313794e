/** Writes the calls by which a script comes to a device that can be talked to. */
final class Setup {
    private Setup() {
    }

    /**
     * A device of that number, in a port of the host's hub, configured. An endpoint's greatest packet is negative for
     * one out of the host, 0 for none.
     */
    static String device(int number, char speed, int port, int... endpoints) {
        StringBuilder text = new StringBuilder();
        text.append("make('").append(speed).append("', 0, 1, false, 0) = ").append(number).append("; ");
        int made = 0;
        for (int i = 0; i < endpoints.length; i++) {
            if (endpoints[i] != 0) {
                made++;
                text.append("endpoint(").append(number).append(", ").append(i + 1).append(", ")
                    .append(endpoints[i] > 0).append(", ").append(Math.abs(endpoints[i])).append(") = ").append(made)
                    .append("; ");
            }
        }
        text.append("plug(").append(number).append(", 0, ").append(port).append(") = 1; look() = ").append(number);
        return text.append("; ").toString();
    }

    /** Types these bytes, none being typed before. */
    static String type(int... bytes) {
        StringBuilder text = new StringBuilder();
        for (int i = 0; i < bytes.length; i++) {
            text.append("type(").append(bytes[i]).append(") = ").append(i + 1).append("; ");
        }
        return text.toString();
    }

    /** Loads these bytes, so that as many wait then as is told. */
    static String load(int device, int endpoint, int waiting, int... bytes) {
        return type(bytes) + "load(" + device + ", " + endpoint + ") = " + waiting + "; ";
    }

    /** Sends these bytes by a pipe without transfers, and rings its doorbell. */
    static String send(int pipe, int... bytes) {
        return type(bytes) + "send(" + pipe + ") = 1; ring(" + pipe + ") = 1; ";
    }

    /** Asks a pipe without transfers for bytes, and rings its doorbell. */
    static String ask(int pipe, int bytes) {
        return "ask(" + pipe + ", " + bytes + ") = 1; ring(" + pipe + ") = 1; ";
    }

    /** The next event. */
    static String event(char how, int pipe, int bytes) {
        return "event() = '" + how + "'; eventPipe() = " + pipe + "; eventBytes() = " + bytes + "; ";
    }
}
