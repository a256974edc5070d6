/** Long runs of calls, made by a fixed rule, each answered by the class and by the model alike. */
public final class ModelTest {
    private static final int RUNS = 1500;
    // An object is good for 512 calls, and State.of makes up to 175 of them at the end.
    private static final int MOST_CALLS = 512 - 175;

    private long seed;
    private TimeNet net;
    private Model model;
    private String call;
    private String got;
    private String due;

    private ModelTest(long seed) {
        this.seed = seed;
        this.net = new TimeNet();
        this.model = new Model();
    }

    private int upTo(int bound) {
        seed = seed * 6364136223846793005L + 1442695040888963407L;
        return (int) ((seed >>> 33) % bound);
    }

    /** Mostly within the range, often at its ends, sometimes out of it. */
    private int near(int least, int most) {
        switch (upTo(40)) {
            case 0: return least - 1;
            case 1: return most + 1;
            case 2: return upTo(2) == 0 ? Integer.MIN_VALUE : Integer.MAX_VALUE;
            case 3: case 4: return least;
            case 5: case 6: return most;
            default: return least + upTo(most - least + 1);
        }
    }

    private int node() {
        return near(0, Math.max(0, model.nodes() - 1));
    }

    /** Few classes and variances, so that equal ones meet. */
    private int grade() {
        return upTo(4) == 0 ? near(0, 255) : upTo(3);
    }

    private int variance() {
        return upTo(4) == 0 ? near(0, 1000) : upTo(2);
    }

    private int domain() {
        return upTo(5) == 0 ? near(0, 1) : 0;
    }

    private int delay() {
        return upTo(2) == 0 ? near(0, 100000) : upTo(20);
    }

    private void ask(String name, Check.Call ofNet, Check.Call ofModel) {
        call = name;
        got = Check.outcome(ofNet);
        due = Check.outcome(ofModel);
    }

    private void build() {
        int a = node();
        int b = node();
        switch (upTo(10)) {
            case 0: {
                int d = domain(), g = grade(), v = variance(), r = near(-100, 100);
                ask("add(" + d + ", " + g + ", " + v + ", " + r + ")",
                    () -> net.add(d, g, v, r), () -> model.add(d, g, v, r));
                break;
            }
            case 1: {
                int g = grade(), v = variance();
                ask("setClock(" + a + ", " + g + ", " + v + ")",
                    () -> net.setClock(a, g, v), () -> model.setClock(a, g, v));
                break;
            }
            case 2: {
                int r = near(-100, 100);
                ask("setDrift(" + a + ", " + r + ")", () -> net.setDrift(a, r), () -> model.setDrift(a, r));
                break;
            }
            case 3: {
                int o = near(-1000000, 1000000);
                ask("setOffset(" + a + ", " + o + ")", () -> net.setOffset(a, o), () -> model.setOffset(a, o));
                break;
            }
            case 4: case 5: case 6: {
                int t = delay(), k = delay();
                ask("link(" + a + ", " + b + ", " + t + ", " + k + ")",
                    () -> net.link(a, b, t, k), () -> model.link(a, b, t, k));
                break;
            }
            case 7: case 8: {
                int d = upTo(2) == 0 ? near(-100000, 100000) : upTo(40) - 20;
                ask("tell(" + a + ", " + b + ", " + d + ")", () -> net.tell(a, b, d), () -> model.tell(a, b, d));
                break;
            }
            default:
                ask("cut(" + a + ", " + b + ")", () -> net.cut(a, b), () -> model.cut(a, b));
        }
    }

    private void pass() {
        int ticks = upTo(3) == 0 ? near(1, 50) : 1 + upTo(3);
        ask("tick(" + ticks + ")", () -> net.tick(ticks), () -> model.tick(ticks));
    }

    private void look() {
        int a = node();
        int b = node();
        int d = near(0, 1);
        switch (upTo(12)) {
            case 0: ask("nodes()", () -> net.nodes(), () -> model.nodes()); break;
            case 1: ask("links()", () -> net.links(), () -> model.links()); break;
            case 2: ask("best(" + a + ")", () -> net.best(a), () -> model.best(a)); break;
            case 3: ask("steps(" + a + ")", () -> net.steps(a), () -> model.steps(a)); break;
            case 4: ask("parent(" + a + ")", () -> net.parent(a), () -> model.parent(a)); break;
            case 5: ask("port(" + a + ", " + b + ")", () -> net.port(a, b), () -> model.port(a, b)); break;
            case 6: ask("bestByGraph(" + a + ")", () -> net.bestByGraph(a), () -> model.bestByGraph(a)); break;
            case 7: ask("stepsByGraph(" + a + ")", () -> net.stepsByGraph(a), () -> model.stepsByGraph(a)); break;
            case 8: ask("isSettled()", () -> net.isSettled() ? 1 : 0, () -> model.isSettled() ? 1 : 0); break;
            case 9: ask("offset(" + a + ")", () -> net.offset(a), () -> model.offset(a)); break;
            case 10: ask("rate(" + a + ")", () -> net.rate(a), () -> model.rate(a)); break;
            default: ask("spread(" + d + ")", () -> net.spread(d), () -> model.spread(d));
        }
    }

    /** The same text as State.of makes of a net. */
    private String stateOfModel() {
        StringBuilder text = new StringBuilder();
        int nodes = model.nodes();
        text.append(nodes).append(" nodes ").append(model.links()).append(" links");
        text.append(model.isSettled() ? " settled" : " unsettled");
        text.append(" spreads ").append(model.spread(0)).append(' ').append(model.spread(1));
        for (int node = 0; node < nodes; node++) {
            text.append("; ").append(node).append(": ");
            text.append(model.best(node)).append(' ').append(model.steps(node)).append(' ').append(model.parent(node));
            text.append(' ').append(model.bestByGraph(node)).append(' ').append(model.stepsByGraph(node));
            text.append(' ').append(model.offset(node)).append(' ').append(model.rate(node)).append(" ports ");
            for (int other = 0; other < nodes; other++) {
                text.append(model.port(node, other));
            }
        }
        return text.toString();
    }

    private void ask() {
        switch (upTo(5)) {
            case 0: pass(); break;
            case 1: look(); break;
            default: build();
        }
    }

    private void askForANode() {
        int d = domain(), g = grade(), v = variance();
        ask("add(" + d + ", " + g + ", " + v + ", 1)", () -> net.add(d, g, v, 1), () -> model.add(d, g, v, 1));
    }

    private void run(Check check, int number) {
        int firstNodes = upTo(11);
        int calls = firstNodes + upTo(MOST_CALLS - firstNodes + 1);
        for (int n = 0; n < calls; n++) {
            if (n < firstNodes) {
                askForANode();
            } else {
                ask();
            }
            check.judge("run " + number + ", call " + n + ", " + call, got, due);
            if (!got.equals(due)) {
                return;
            }
        }
        check.judge("run " + number + ", after all " + calls + " calls, the state", State.of(net), stateOfModel());
    }

    public static void main(String[] args) {
        Check check = new Check("ModelTest");
        for (int number = 0; number < RUNS; number++) {
            new ModelTest(number * 7919L + 17).run(check, number);
        }
        check.end();
    }
}
