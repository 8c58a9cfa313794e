import java.util.Random;

/**
 * Runs of 512 calls by chance, of seeds that are always the same, on a Hubcascade and on a Model: each answer has to
 * be the same, a call that throws changes nothing, and everything that can be read agrees again and again.
 */
final class RandomTests {
    private static final int RUNS = 300;
    private static final int CALLS = 512;
    private static final String[] WORK = {"type", "type", "type", "send", "send", "ask", "ask", "ring", "ring", "ring",
        "load", "load", "frame", "frame", "frame", "frame", "event", "event", "fault", "fault", "clear"};
    private static final String[] CHANGE = {"plug", "plug", "look", "look", "open", "open", "open", "close", "unplug",
        "sleep", "wake", "draw", "cancel", "cancel", "wipe", "driver", "clear"};
    private static final int[] ODD = {-1, 0, 1, 2, 3, 4, 5, 7, 8, 11, 12, 15, 16, 17, 32, 99, 255, 256, 2047, 2048,
        Integer.MIN_VALUE, Integer.MAX_VALUE};

    private final Random random;
    private final Hubcascade bus = new Hubcascade();
    private final Model model = new Model();
    private final StringBuilder said = new StringBuilder();
    private boolean isSame = true;
    private int made;

    private RandomTests(long seed) {
        random = new Random(seed);
    }

    static void run() {
        for (int seed = 0; seed < RUNS; seed++) {
            new RandomTests(seed).runOne(seed);
        }
        anyArguments();
    }

    private void runOne(int seed) {
        int calls = 0;
        for (int i = 1 + random.nextInt(15); i > 0 && isSame; i--) {
            calls += makeDevice();
        }
        for (int i = 0; i < 60 && isSame; i++) {
            calls++;
            setUp();
        }
        while (calls < CALLS && isSame) {
            calls++;
            step();
            if (calls % 64 == 0) {
                compare("picture after " + calls, Calls.picture(bus), Calls.picture(model));
            }
        }
        compare("picture at the end", Calls.picture(bus), Calls.picture(model));
        Check.is("run " + seed, isSame, true);
    }

    private int makeDevice() {
        char speed = "lffhhhh".charAt(random.nextInt(7));
        int ports = speed == 'l' || random.nextInt(3) == 0 ? 0 : 1 + random.nextInt(4);
        call("make", speed, ports, 1 + random.nextInt(3), random.nextBoolean(), random.nextInt(100));
        made++;
        int endpoints = 1 + random.nextInt(3);
        for (int number = 1; number <= endpoints; number++) {
            call("endpoint", made, number, random.nextBoolean(), 1 + random.nextInt(8));
        }
        return 1 + endpoints;
    }

    private void setUp() {
        int what = random.nextInt(3);
        if (what == 0) {
            call("plug", device(), random.nextInt(3) == 0 ? 0 : device(), random.nextInt(4));
        } else if (what == 1) {
            call("look");
        } else {
            open();
        }
    }

    private void step() {
        int dice = random.nextInt(100);
        if (dice < 80) {
            callByName(WORK[random.nextInt(WORK.length)]);
        } else if (dice < 97) {
            callByName(CHANGE[random.nextInt(CHANGE.length)]);
        } else {
            callOdd();
        }
    }

    private void open() {
        call("open", device(), 1 + random.nextInt(3), "bbbis".charAt(random.nextInt(5)), 1 << random.nextInt(4));
    }

    private void callByName(String name) {
        switch (name) {
            case "type" -> call(name, random.nextInt(256));
            case "send", "ring", "close", "clear", "cancel" -> call(name, pipe());
            case "ask" -> call(name, pipe(), 1 + random.nextInt(16));
            case "load" -> call(name, device(), 1 + random.nextInt(3));
            case "plug" -> call(name, device(), random.nextInt(3) == 0 ? 0 : device(), random.nextInt(4));
            case "open" -> open();
            case "unplug", "sleep", "wake" -> call(name, device());
            case "draw" -> call(name, device(), random.nextInt(7));
            case "driver" -> call(name, random.nextInt(10), random.nextInt(11) - 1);
            case "fault" -> call(name, device(), random.nextInt(8) == 0 ? 0 : 1 + random.nextInt(3),
                "cdansbtcdatcda".charAt(random.nextInt(14)), 1 + random.nextInt(4));
            default -> call(name);
        }
    }

    private void callOdd() {
        int device = odd();
        switch (random.nextInt(12)) {
            case 0 -> call("make", sign(), odd(), odd(), random.nextBoolean(), odd());
            case 1 -> call("endpoint", device, odd(), random.nextBoolean(), odd());
            case 2 -> call("plug", device, odd(), odd());
            case 3 -> call("open", device, odd(), sign(), odd());
            case 4 -> call("ask", odd(), odd());
            case 5 -> call("fault", device, odd(), sign(), odd());
            case 6 -> call("reserved", odd(), odd());
            case 7 -> call("takenAt", device, odd(), odd());
            case 8 -> call("draw", device, odd());
            case 9 -> call("five", odd());
            case 10 -> call("type", odd());
            default -> call("driver", odd(), odd());
        }
    }

    private int device() {
        return random.nextInt(made + 1 + random.nextInt(2));
    }

    private int pipe() {
        return random.nextInt(4) == 0 ? random.nextInt(12) : random.nextInt(4);
    }

    private int odd() {
        return ODD[random.nextInt(ODD.length)];
    }

    private char sign() {
        return "lfhbiscdant qX\u0000\uffff".charAt(random.nextInt(15));
    }

    private void call(String name, Object... arguments) {
        if (!isSame) {
            return;
        }
        said.append(name).append(java.util.Arrays.toString(arguments));
        String before = random.nextInt(20) == 0 ? Calls.picture(bus) : "";
        String got = Calls.answer(bus, name, arguments);
        said.append(" = ").append(got).append("\n");
        compare(name, got, Calls.answer(model, name, arguments));
        if (!before.isEmpty() && got.startsWith("throws")) {
            compare(name + " changes nothing", Calls.picture(bus), before);
        }
    }

    private void compare(String what, String got, String due) {
        if (isSame && !got.equals(due)) {
            isSame = false;
            Check.is(what + " after\n" + said, got, due);
        }
    }

    // Whatever the arguments, the answer is one or an exception that the document names.
    private static void anyArguments() {
        Random random = new Random(7);
        for (int run = 0; run < 100; run++) {
            RandomTests one = new RandomTests(run);
            for (int i = 0; i < 5; i++) {
                one.makeDevice();
            }
            for (int i = 0; i < 60; i++) {
                one.setUp();
            }
            for (int i = 0; i < 300 && one.isSame; i++) {
                var methods = FaceTests.publicMethods();
                var method = methods.get(random.nextInt(methods.size()));
                Object[] arguments = new Object[method.getParameterCount()];
                for (int k = 0; k < arguments.length; k++) {
                    Class<?> type = method.getParameterTypes()[k];
                    arguments[k] = type == char.class ? (Object) one.sign()
                        : type == boolean.class ? (Object) random.nextBoolean() : (Object) one.odd();
                }
                one.call(method.getName(), arguments);
            }
            Check.is("any arguments, run " + run, one.isSame, true);
        }
    }
}
