import java.lang.reflect.InvocationTargetException;
import java.lang.reflect.Method;
import java.util.ArrayList;
import java.util.Arrays;
import java.util.HashMap;
import java.util.List;
import java.util.Map;
import java.util.NoSuchElementException;
import java.util.Set;

/** Calls methods of a bus by their names, and writes their answers as texts. */
final class Calls {
    private static final Set<Class<?>> DOCUMENTED = Set.of(
            IndexOutOfBoundsException.class, IllegalArgumentException.class, IllegalStateException.class,
            UnsupportedOperationException.class, NoSuchElementException.class, ArithmeticException.class);

    private static final Map<String, Method> METHODS = new HashMap<>();

    private Calls() {
    }

    static String answer(Object bus, String name, Object... arguments) {
        Method method = find(bus, name, arguments.length);
        try {
            return write(method.invoke(bus, arguments));
        } catch (InvocationTargetException e) {
            return "throws " + nameOf(e.getCause());
        } catch (IllegalAccessException | IllegalArgumentException e) {
            throw new IllegalStateException("the test can't call " + name, e);
        }
    }

    static String write(Object value) {
        return value instanceof Character ? "'" + value + "'" : String.valueOf(value);
    }

    /** Everything that can be read of a bus without changing it. */
    static String picture(Object bus) {
        List<String> parts = new ArrayList<>();
        String[] plain = {"sixteen", "stuffed", "frames", "events", "eventPipe", "eventBytes", "missed", "got",
            "busyShare", "meanBytes", "checksum", "isSound"};
        for (String name : plain) {
            parts.add(name + answer(bus, name));
        }
        for (char what : new char[] {'t', 'd', 'h'}) {
            parts.add(what + answer(bus, "packets", what));
        }
        addBytes(parts, bus, "gotAt");
        for (int device = -1; device < 0 || !answer(bus, "stateOf", device).startsWith("throws"); device++) {
            addDevice(parts, bus, device);
        }
        for (int pipe = 0; pipe < 12; pipe++) {
            for (String name : new String[] {"phaseOf", "isHalted", "causeOf"}) {
                parts.add("pipe " + pipe + name + answer(bus, name, pipe));
            }
        }
        return String.join(" ", parts);
    }

    private static void addDevice(List<String> parts, Object bus, int device) {
        String[] names = {"stateOf", "hubOf", "depthOf", "speedOf", "translator", "addressOf", "driverOf", "blame",
            "left"};
        for (String name : names) {
            parts.add("device " + device + name + answer(bus, name, device));
        }
        for (int frame = 0; frame < 8; frame++) {
            parts.add("reserved" + answer(bus, "reserved", frame, device));
        }
        for (int endpoint = 1; endpoint <= 3; endpoint++) {
            parts.add("waiting" + answer(bus, "waiting", device, endpoint));
            parts.add("taken" + answer(bus, "taken", device, endpoint));
            addBytes(parts, bus, "takenAt", device, endpoint);
        }
    }

    private static void addBytes(List<String> parts, Object bus, String name, Object... place) {
        String got = "";
        for (int index = 0; index < 40 && !got.startsWith("throws"); index++) {
            Object[] arguments = Arrays.copyOf(place, place.length + 1);
            arguments[place.length] = index;
            got = answer(bus, name, arguments);
            parts.add("byte" + got);
        }
    }

    private static Method find(Object bus, String name, int arity) {
        return METHODS.computeIfAbsent(bus.getClass().getName() + " " + name + " " + arity, key -> {
            for (Method method : bus.getClass().getDeclaredMethods()) {
                if (method.getName().equals(name) && method.getParameterCount() == arity) {
                    method.setAccessible(true);
                    return method;
                }
            }
            throw new IllegalStateException("there is no method " + key);
        });
    }

    // What the machine throws by itself is told apart by its top frame or its message.
    private static String nameOf(Throwable thrown) {
        String message = String.valueOf(thrown.getMessage());
        boolean isByMachine = message.startsWith("Index ") || message.contains("by zero");
        boolean isDocumented = DOCUMENTED.contains(thrown.getClass());
        if (!isDocumented || isByMachine || !isThrownByBus(thrown)) {
            return "by the machine: " + thrown;
        }
        return thrown.getClass().getSimpleName();
    }

    private static boolean isThrownByBus(Throwable thrown) {
        StackTraceElement[] trace = thrown.getStackTrace();
        if (trace.length == 0) {
            return false;
        }
        String top = trace[0].getClassName();
        return top.startsWith("Hubcascade") || top.startsWith("Model");
    }
}
