/** All that can be asked of a net without changing it, as one text. */
final class State {
    private State() {
    }

    static String of(TimeNet net) {
        StringBuilder text = new StringBuilder();
        int nodes = net.nodes();
        text.append(nodes).append(" nodes ").append(net.links()).append(" links");
        text.append(net.isSettled() ? " settled" : " unsettled");
        text.append(" spreads ").append(net.spread(0)).append(' ').append(net.spread(1));
        for (int node = 0; node < nodes; node++) {
            text.append("; ").append(node).append(": ");
            text.append(net.best(node)).append(' ').append(net.steps(node)).append(' ').append(net.parent(node));
            text.append(' ').append(net.bestByGraph(node)).append(' ').append(net.stepsByGraph(node));
            text.append(' ').append(net.offset(node)).append(' ').append(net.rate(node)).append(" ports ");
            for (int other = 0; other < nodes; other++) {
                text.append(net.port(node, other));
            }
        }
        return text.toString();
    }
}
