/** Counts and prints the answers that are not due; what all tests of the project share. */
final class Check {
    interface Call {
        long answer();
    }

    private final String test;
    private int checked = 0;
    private int wrong = 0;

    Check(String test) {
        this.test = test;
    }

    void due(String what, long got, long want) {
        judge(what, Long.toString(got), Long.toString(want));
    }

    void due(String what, boolean got, boolean want) {
        judge(what, Boolean.toString(got), Boolean.toString(want));
    }

    void judge(String what, String got, String want) {
        checked++;
        if (!got.equals(want)) {
            wrong++;
            System.out.println(test + ": " + what + " answered " + got + ", due is " + want);
        }
    }

    /** The call is to throw this exception, no subclass of it, and to leave all that can be asked as it was. */
    void refused(String what, Class<? extends RuntimeException> kind, TimeNet net, Call call) {
        String before = State.of(net);
        judge(what, outcome(call), "throws " + kind.getName());
        judge("after " + what + ", the state", State.of(net), before);
    }

    static String outcome(Call call) {
        try {
            return Long.toString(call.answer());
        } catch (RuntimeException thrown) {
            return "throws " + thrown.getClass().getName();
        }
    }

    void end() {
        System.out.println(test + ": " + checked + " answers looked at, " + wrong + " not as due");
        if (wrong != 0 || checked == 0) {
            System.exit(1);
        }
    }
}
