/** What a net answers, as one text. */
final class State {
    private State() {
    }

    /** All that can be asked without changing the net. */
    static String of(TimeNet net) {
        StringBuilder text = new StringBuilder();
        int nodes = net.nodes();
        text.append(nodes).append(" nodes ").append(net.links()).append(" links");
        text.append(net.isSettled() ? " settled" : " unsettled");
        text.append(" spreads ").append(net.spread(0)).append(' ').append(net.spread(1));
        for (int node = 0; node < nodes; node++) {
            text.append("; ").append(node).append(": ");
            text.append(net.best(node)).append(' ').append(net.steps(node)).append(' ').append(net.parent(node));
            text.append(' ').append(net.bestByGraph(node)).append(' ').append(net.stepsByGraph(node));
            text.append(' ').append(net.offset(node)).append(' ').append(net.rate(node)).append(" ports ");
            for (int other = 0; other < nodes; other++) {
                text.append(net.port(node, other));
            }
        }
        return text.toString();
    }

    /**
     * That, and what only other calls bring to light: told differences, delays (by what is steered), how many ticks
     * there were, the order of the clocks, classes and drifts. The net is spoiled by it. With ten nodes in a line it
     * makes some 460 calls, as an object is good for 512.
     */
    static String ofAllThatIsHeld(TimeNet net) {
        StringBuilder text = new StringBuilder(of(net));
        int nodes = net.nodes();
        text.append(" told ");
        for (int one = 0; one < nodes; one++) {
            for (int other = one + 1; other < nodes; other++) {
                if (nodes < 5 || net.port(one, other) != TimeNet.NO_PORT) {
                    final int from = one, to = other;
                    text.append(Check.outcome(() -> net.tell(from, to, 0))).append(' ');
                }
            }
        }
        text.append(" ticks ").append(net.tick(1)).append(' ').append(of(net)).append(" clocks, the best first ");
        for (int rank = 0; rank < nodes; rank++) {
            int best = net.bestByGraph(0);
            text.append(best).append(' ').append(net.setClock(best, 255, 1000)).append(' ');
        }
        text.append(" drifts ");
        for (int node = 0; node < nodes; node++) {
            text.append(net.setDrift(node, 0)).append(' ');
        }
        return text.toString();
    }
}
