/** Writes rows of a script in which one argument of a call, %s, takes one value after another. */
final class Edge {
    private static final String INDEX = "IndexOutOfBoundsException";
    private static final String ARGUMENT = "IllegalArgumentException";
    private static final String STATE = "IllegalStateException";
    private static final String UNSUPPORTED = "UnsupportedOperationException";
    private static final String ELEMENT = "NoSuchElementException";

    private Edge() {
    }

    /** The first values outside of least to most, on both sides, and the last ones that there are. */
    private static String outside(String call, String exception, int least, int most) {
        return row(call, exception, least - 1) + row(call, exception, most + 1)
            + row(call, exception, Integer.MIN_VALUE) + row(call, exception, Integer.MAX_VALUE);
    }

    private static String row(String call, String exception, int value) {
        return call.replace("%s", String.valueOf(value)) + " throws " + exception + "; ";
    }

    /** An argument that has to be from least to most. */
    static String argument(String call, int least, int most) {
        return outside(call, ARGUMENT, least, most);
    }

    /** A device or an endpoint or a port of which there are those from least to most. */
    static String index(String call, int least, int most) {
        return outside(call, INDEX, least, most);
    }

    /** An element of which there are those from least to most. */
    static String element(String call, int least, int most) {
        return outside(call, ELEMENT, least, most);
    }

    static String badIndex(String... calls) {
        return all(INDEX, calls);
    }

    static String badArgument(String... calls) {
        return all(ARGUMENT, calls);
    }

    static String badState(String... calls) {
        return all(STATE, calls);
    }

    static String unsupported(String... calls) {
        return all(UNSUPPORTED, calls);
    }

    static String noElement(String... calls) {
        return all(ELEMENT, calls);
    }

    private static String all(String exception, String... calls) {
        StringBuilder text = new StringBuilder();
        for (String call : calls) {
            text.append(call).append(" throws ").append(exception).append("; ");
        }
        return text.toString();
    }

    /** The same row for each of the signs, in place of %s. */
    static String forSigns(String signs, String row) {
        StringBuilder text = new StringBuilder();
        for (char sign : signs.toCharArray()) {
            text.append(row.replace("%s", String.valueOf(sign)));
        }
        return text.toString();
    }

    /** The same row for each of the numbers from least to most, in place of %s. */
    static String forNumbers(int least, int most, String row) {
        StringBuilder text = new StringBuilder();
        for (int i = least; i <= most; i++) {
            text.append(row.replace("%s", String.valueOf(i)));
        }
        return text.toString();
    }

    /** Types so many bytes, 1 being the first one, none being typed before. */
    static String typed(int many) {
        return forNumbers(1, many, "type(%s) = %s; ");
    }
}
