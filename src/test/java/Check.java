/** Counts the checks, and prints those that fail. */
final class Check {
    private static int passed;
    private static int failed;

    private Check() {
    }

    static void is(String what, Object got, Object due) {
        if (due.equals(got)) {
            passed++;
        } else {
            failed++;
            System.out.println(what + "\n    answered " + got + "\n    due is   " + due);
        }
    }

    /** For long texts: tells where they part. */
    static void isSame(String what, String got, String due) {
        int at = 0;
        while (at < got.length() && at < due.length() && got.charAt(at) == due.charAt(at)) {
            at++;
        }
        int from = Math.max(0, at - 60);
        String gotThere = got.substring(from, Math.min(got.length(), at + 60));
        String dueThere = due.substring(from, Math.min(due.length(), at + 60));
        is(what, gotThere, dueThere);
    }

    static boolean isAllWell() {
        return failed == 0;
    }

    static String sum() {
        return passed + " passed, " + failed + " failed";
    }
}
