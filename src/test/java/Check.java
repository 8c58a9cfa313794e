/** Counts the checks, and prints those that fail. */
final class Check {
    private static int passed;
    private static int failed;

    private Check() {
    }

    static void is(String what, Object got, Object due) {
        if (due.equals(got)) {
            passed++;
        } else {
            failed++;
            System.out.println(what + "\n    answered " + got + "\n    due is   " + due);
        }
    }

    static boolean isAllWell() {
        return failed == 0;
    }

    static String sum() {
        return passed + " passed, " + failed + " failed";
    }
}
