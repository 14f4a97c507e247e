/** Counts the answers that are not due, and prints them. */
final class Check {
    private static int checks = 0;
    private static int wrong = 0;
    private static String part = "";

    private Check() {
    }

    static void part(String name) {
        part = name;
    }

    static void same(String call, long got, long due) {
        checks++;
        if (got != due) {
            tell(call, String.valueOf(got), String.valueOf(due));
        }
    }

    static void same(String call, double got, double due) {
        checks++;
        if (got != due) {
            tell(call, String.valueOf(got), String.valueOf(due));
        }
    }

    static void same(String call, String got, String due) {
        checks++;
        if (!got.equals(due)) {
            tell(call, got, due);
        }
    }

    private static void tell(String call, String got, String due) {
        wrong++;
        if (wrong <= 50) {
            System.out.println(part + ": " + call + " answered " + got + ", due is " + due);
        }
    }

    static int checks() {
        return checks;
    }

    static int wrong() {
        return wrong;
    }

    /** Ends the program: with exit code 1 if an answer was not due, or if nothing was looked at. */
    static void end(String test) {
        System.out.println(test + ": " + checks + " checks, " + wrong + " wrong");
        if (wrong != 0 || checks == 0) {
            System.exit(1);
        }
    }
}
