/** Counts the calls that answer as is due, and tells of those that do not. */
final class Check {
    interface Call {
        long answer();
    }

    private final String name;
    private int right = 0;
    private int wrong = 0;

    Check(String name) {
        this.name = name;
    }

    void due(String what, long want, Call call) {
        compare(what, Long.toString(want), outcome(call));
    }

    void compare(String what, String want, String got) {
        if (want.equals(got)) {
            right++;
        } else {
            wrong++;
            System.out.println(name + ": " + what + " answered " + got + ", due is " + want);
        }
    }

    /** What a call answers, or the very class that it throws. */
    static String outcome(Call call) {
        try {
            return Long.toString(call.answer());
        } catch (RuntimeException e) {
            // of what the machine throws, a division's alone has a class that the document asks for too
            String thrower = "/ by zero".equals(e.getMessage()) ? ", but the machine's own" : "";
            return "throws " + e.getClass().getName() + thrower;
        }
    }

    int wrong() {
        return wrong;
    }

    void end() {
        System.out.println(name + ": " + right + " answers as due, " + wrong + " not");
        if (wrong != 0 || right == 0) {
            System.exit(1);
        }
    }
}
