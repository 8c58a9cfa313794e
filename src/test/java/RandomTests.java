import java.util.ArrayList;
import java.util.List;
import java.util.Random;

/**
 * Runs of 512 calls by chance, of seeds that are always the same, on a Hubcascade and on a Model: each answer has to
 * be the same, a call that throws changes nothing, and everything that can be read agrees again and again.
 */
final class RandomTests {
    private static final int RUNS = 800;
    private static final int CALLS = 512;
    private static final String[] WORK = {"transfer", "transfer", "transfer", "load", "load", "ring", "frame", "frame",
        "frame", "frame", "frame", "frame", "frame", "frame", "event", "event", "event", "fault", "fault", "clear"};
    private static final String[] CHANGE = {"plug", "plug", "plug", "look", "look", "look", "open", "open", "open",
        "open", "close", "unplug", "nap", "nap", "sleep", "wake", "draw", "cancel", "cancel", "wipe", "driver", "type",
        "device"};
    private static final int[] ODD = {-1, 0, 1, 2, 3, 4, 5, 7, 8, 11, 12, 15, 16, 17, 32, 99, 255, 256, 2047, 2048,
        Integer.MIN_VALUE, Integer.MAX_VALUE};

    private final Random random;
    private final Hubcascade bus = new Hubcascade();
    private final Model model = new Model();
    private final StringBuilder said = new StringBuilder();
    private final List<int[]> points = new ArrayList<>();
    private final List<int[]> pipes = new ArrayList<>();
    private boolean isSame = true;
    private int made;
    private int calls;

    private RandomTests(long seed) {
        random = new Random(seed);
    }

    static void run() {
        for (int seed = 0; seed < RUNS; seed++) {
            new RandomTests(seed).runOne(seed);
        }
        anyArguments();
    }

    private void runOne(int seed) {
        for (int i = 1 + random.nextInt(random.nextBoolean() ? 15 : 4); i > 0 && isSame; i--) {
            makeDevice();
        }
        for (int i = 0; i < 60 && isSame; i++) {
            setUp();
        }
        for (int i = 0; calls < CALLS && isSame; i++) {
            step();
            if (i % 96 == 0) {
                compare("picture after " + calls, Calls.picture(bus), Calls.picture(model));
            }
        }
        compare("picture at the end", Calls.picture(bus), Calls.picture(model));
        Check.is("run " + seed, isSame, true);
    }

    private void makeDevice() {
        char speed = "lffhhhh".charAt(random.nextInt(7));
        int ports = speed == 'l' || random.nextInt(3) == 0 ? 0 : 1 + random.nextInt(4);
        call("make", speed, ports, 1 + random.nextInt(3), random.nextBoolean(), 10 * few() + few());
        made++;
        int endpoints = 1 + random.nextInt(3);
        for (int number = 1; number <= endpoints; number++) {
            boolean isIn = random.nextBoolean();
            call("endpoint", made, number, isIn, 1 + random.nextInt(8));
            points.add(new int[] {made, number, isIn ? 1 : 0});
        }
    }

    private void lateDevice() {
        if (made < 15) {
            makeDevice();
        } else {
            call("make", 'f', 1, 1, true, 0);
        }
    }

    private void setUp() {
        int what = random.nextInt(20);
        if (what == 0) {
            callByName("driver");
        } else if (what < 7) {
            call("plug", device(), random.nextInt(3) == 0 ? 0 : device(), random.nextInt(4));
        } else if (what < 14) {
            call("look");
        } else {
            open();
        }
    }

    private void step() {
        int dice = random.nextInt(100);
        if (dice < 85) {
            callByName(WORK[random.nextInt(WORK.length)]);
        } else if (dice < 97) {
            callByName(CHANGE[random.nextInt(CHANGE.length)]);
        } else {
            callOdd();
        }
    }

    private void open() {
        int[] point = point();
        call("open", point[0], point[1], "bbbis".charAt(random.nextInt(5)), 1 << random.nextInt(4));
    }

    // A transfer is asked for or sent by what the pipe is for, mostly, and its bytes are typed ahead of it.
    private void transfer() {
        int[] pipe = pipe();
        boolean isIn = pipe[3] == 1 != (random.nextInt(20) == 0);
        if (isIn) {
            call("ask", pipe[0], 1 + random.nextInt(16));
        } else {
            typeSome();
            call("send", pipe[0]);
        }
        if (random.nextInt(4) > 0) {
            call("ring", pipe[0]);
        }
    }

    private void load() {
        int[] pipe = pipe();
        int[] point = random.nextInt(5) == 0 ? point() : new int[] {pipe[1], pipe[2]};
        typeSome();
        call("load", point[0], point[1]);
    }

    private void typeSome() {
        for (int i = random.nextInt(10); i > 0; i--) {
            call("type", random.nextInt(256));
        }
    }

    private void fault() {
        int[] pipe = pipe();
        int[] point = random.nextInt(3) == 0 ? point() : new int[] {pipe[1], pipe[2]};
        int number = random.nextInt(12) == 0 ? 0 : point[1];
        call("fault", point[0], number, "cdansbtcdatcdat".charAt(random.nextInt(15)), 1 + random.nextInt(4));
    }

    /** Takes what a device has to do away, so that it can be put asleep, and wakes one. */
    private void nap() {
        int device = deviceIn('c');
        for (int[] pipe : List.copyOf(pipes)) {
            for (int i = 0; i < 4 && pipe[1] == device; i++) {
                call("cancel", pipe[0]);
            }
        }
        call("sleep", device);
        if (random.nextInt(4) > 0) {
            callByName(random.nextBoolean() ? "transfer" : "frame");
            call("wake", random.nextBoolean() ? device : deviceIn('z'));
        }
    }

    private void callByName(String name) {
        switch (name) {
            case "transfer" -> transfer();
            case "load" -> load();
            case "fault" -> fault();
            case "open" -> open();
            case "type" -> call(name, random.nextInt(256));
            case "ring", "close", "clear", "cancel" -> call(name, pipe()[0]);
            case "plug" -> call(name, device(), random.nextInt(3) == 0 ? 0 : device(), random.nextInt(4));
            case "unplug" -> call(name, device());
            case "sleep" -> call(name, deviceIn('c'));
            case "wake" -> call(name, deviceIn('z'));
            case "nap" -> nap();
            case "device" -> lateDevice();
            case "draw" -> call(name, device(), random.nextInt(4) == 0 ? 6 : random.nextInt(6));
            case "driver" -> call(name, few(), random.nextInt(3) == 0 ? -1 : few());
            default -> call(name);
        }
    }

    private void callOdd() {
        int device = odd();
        switch (random.nextInt(12)) {
            case 0 -> call("make", sign(), odd(), odd(), random.nextBoolean(), odd());
            case 1 -> call("endpoint", device, odd(), random.nextBoolean(), odd());
            case 2 -> call("plug", device, odd(), odd());
            case 3 -> call("open", device, odd(), sign(), odd());
            case 4 -> call("ask", odd(), odd());
            case 5 -> call("fault", device, odd(), sign(), odd());
            case 6 -> call("reserved", odd(), odd());
            case 7 -> call("takenAt", device, odd(), odd());
            case 8 -> call("draw", device, odd());
            case 9 -> call("five", odd());
            case 10 -> call("type", odd());
            default -> call("driver", odd(), odd());
        }
    }

    private int device() {
        return random.nextInt(made + 1 + random.nextInt(2));
    }

    private int deviceIn(char state) {
        int device = device();
        for (int i = 0; i <= made && random.nextInt(20) > 0; i++) {
            int other = (device + i) % (made + 1);
            if (model.stateOf(other) == state && other > 0) {
                return other;
            }
        }
        return device;
    }

    private int[] point() {
        return points.get(random.nextInt(points.size()));
    }

    /** One that is open, mostly: its number, device and endpoint, and whether it goes into the host. */
    private int[] pipe() {
        pipes.removeIf(pipe -> Calls.answer(model, "phaseOf", pipe[0]).startsWith("throws"));
        if (pipes.isEmpty() || random.nextInt(20) == 0) {
            return new int[] {random.nextInt(13) - 1, device(), random.nextInt(5), random.nextInt(2)};
        }
        return pipes.get(random.nextInt(pipes.size()));
    }

    private void remember(int number, Object device, Object endpoint) {
        pipes.removeIf(pipe -> pipe[0] == number);
        for (int[] point : points) {
            if (device.equals(point[0]) && endpoint.equals(point[1])) {
                pipes.add(new int[] {number, point[0], point[1], point[2]});
            }
        }
    }

    /** A class or a subclass, of two mostly, so that drivers fit. */
    private int few() {
        return random.nextInt(4) == 0 ? random.nextInt(10) : random.nextInt(2);
    }

    private int odd() {
        return ODD[random.nextInt(ODD.length)];
    }

    private char sign() {
        return "lfhbiscdant qX\u0000\uffff".charAt(random.nextInt(15));
    }

    private void call(String name, Object... arguments) {
        if (!isSame) {
            return;
        }
        calls++;
        said.append(name).append(java.util.Arrays.toString(arguments));
        String before = random.nextInt(80) == 0 ? Calls.picture(bus) : "";
        String got = Calls.answer(bus, name, arguments);
        said.append(" = ").append(got).append("\n");
        compare(name, got, Calls.answer(model, name, arguments));
        if (name.equals("open") && !got.startsWith("throws")) {
            remember(Integer.parseInt(got), arguments[0], arguments[1]);
        }
        if (!before.isEmpty() && got.startsWith("throws")) {
            compare(name + " changes nothing", Calls.picture(bus), before);
        }
    }

    private void compare(String what, String got, String due) {
        if (isSame && !got.equals(due)) {
            isSame = false;
            Check.is(what + " after\n" + said, got, due);
        }
    }

    // Whatever the arguments, the answer is one or an exception that the document names.
    private static void anyArguments() {
        Random random = new Random(7);
        for (int run = 0; run < 100; run++) {
            RandomTests one = new RandomTests(run);
            for (int i = 0; i < 5; i++) {
                one.makeDevice();
            }
            for (int i = 0; i < 60; i++) {
                one.setUp();
            }
            for (int i = 0; i < 300 && one.isSame; i++) {
                var methods = FaceTests.publicMethods();
                var method = methods.get(random.nextInt(methods.size()));
                Object[] arguments = new Object[method.getParameterCount()];
                for (int k = 0; k < arguments.length; k++) {
                    Class<?> type = method.getParameterTypes()[k];
                    arguments[k] = type == char.class ? (Object) one.sign()
                        : type == boolean.class ? (Object) random.nextBoolean() : (Object) one.odd();
                }
                one.call(method.getName(), arguments);
            }
            Check.is("any arguments, run " + run, one.isSame, true);
        }
    }
}
