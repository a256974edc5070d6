/** Counts and prints the answers that are not due; what all tests of the project share. */
final class Check {
    interface Call {
        long answer();
    }

    interface Maker {
        TimeNet make();
    }

    interface CallOn {
        long answer(TimeNet net);
    }

    private final String test;
    private int checked = 0;
    private int wrong = 0;

    Check(String test) {
        this.test = test;
    }

    void due(String what, long got, long want) {
        judge(what, Long.toString(got), Long.toString(want));
    }

    void due(String what, boolean got, boolean want) {
        judge(what, Boolean.toString(got), Boolean.toString(want));
    }

    void judge(String what, String got, String want) {
        checked++;
        if (!got.equals(want)) {
            wrong++;
            System.out.println(test + ": " + what + " answered " + got + ", due is " + want);
        }
    }

    void known(String what, TimeNet net, int node, int best, int steps, int parent) {
        due(what + ": best(" + node + ")", net.best(node), best);
        due(what + ": steps(" + node + ")", net.steps(node), steps);
        due(what + ": parent(" + node + ")", net.parent(node), parent);
    }

    /** The call is to throw this exception and no subclass of it. */
    void thrown(String what, Class<? extends RuntimeException> kind, Call call) {
        judge(what, outcome(call), "throws " + kind.getName());
    }

    /** The same, and the net is to answer from then on as its twin does, which never heard the call. */
    void refused(String what, Class<? extends RuntimeException> kind, Maker maker, CallOn call) {
        TimeNet net = maker.make();
        TimeNet twin = maker.make();
        thrown(what, kind, () -> call.answer(net));
        judge("after " + what + ", the net", State.ofAllThatIsHeld(net), State.ofAllThatIsHeld(twin));
    }

    static String outcome(Call call) {
        try {
            return Long.toString(call.answer());
        } catch (RuntimeException thrown) {
            return "throws " + thrown.getClass().getName();
        }
    }

    void end() {
        System.out.println(test + ": " + checked + " answers looked at, " + wrong + " not as due");
        if (wrong != 0 || checked == 0) {
            System.exit(1);
        }
    }
}
