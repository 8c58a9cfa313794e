import java.util.ArrayList;
import java.util.List;

/**
 * Runs a text of calls on a new bus: "call(arguments) = answer;" or "call(arguments) throws Name;", one behind the
 * other. A call that throws is looked at for having changed nothing.
 */
final class Script {
    private Script() {
    }

    static void run(String title, String text) {
        Object bus = new Hubcascade();
        int row = 0;
        for (String part : text.split(";")) {
            String line = part.strip();
            if (!line.isEmpty()) {
                row++;
                runLine(bus, title + ", row " + row + ": " + line, line);
            }
        }
        Check.is(title + ": sound at the end", Calls.answer(bus, "isSound"), "true");
    }

    private static void runLine(Object bus, String title, String line) {
        int close = line.indexOf(')');
        int open = line.indexOf('(');
        if (open < 0 || close < open) {
            throw new IllegalStateException("not a call: " + line);
        }
        String name = line.substring(0, open);
        Object[] arguments = arguments(line.substring(open + 1, close));
        String due = due(line.substring(close + 1).strip());
        String before = due.startsWith("throws ") ? picture(bus) : "";
        Check.is(title, Calls.answer(bus, name, arguments), due);
        if (!before.isEmpty()) {
            Check.isSame(title + " changes nothing", picture(bus), before);
        }
    }

    private static String picture(Object bus) {
        return Calls.picture(bus) + "\n" + Inside.picture(bus);
    }

    private static String due(String rest) {
        String due = rest.startsWith("=") ? rest.substring(1).strip() : rest;
        return due.endsWith(".") ? due.substring(0, due.length() - 1) : due;
    }

    private static Object[] arguments(String text) {
        List<Object> found = new ArrayList<>();
        for (String part : text.split(",")) {
            String word = part.strip();
            if (word.startsWith("'")) {
                found.add(word.charAt(1));
            } else if (word.equals("true") || word.equals("false")) {
                found.add(Boolean.valueOf(word));
            } else if (!word.isEmpty()) {
                found.add(Integer.valueOf(word));
            }
        }
        return found.toArray();
    }
}
