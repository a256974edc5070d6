/** Examples for the promises about what is known, 12 to 18, and for how clocks are announced. */
public final class KnowledgeTest {
    private static final Class<IndexOutOfBoundsException> NO_NODE = IndexOutOfBoundsException.class;

    private final Check check = new Check("KnowledgeTest");

    private void noSuchNode() {
        TimeNet net = Nets.line(1, 2, 3);
        for (int node : new int[] {-1, 3, 10, Integer.MIN_VALUE, Integer.MAX_VALUE}) {
            check.thrown("12: no node " + node, NO_NODE, () -> net.best(node));
            check.thrown("13: no node " + node, NO_NODE, () -> net.steps(node));
            check.thrown("14: no node " + node, NO_NODE, () -> net.parent(node));
            check.thrown("15: no node " + node, NO_NODE, () -> net.port(node, 0));
            check.thrown("15: no other node " + node, NO_NODE, () -> net.port(0, node));
            check.thrown("15: no such node twice " + node, NO_NODE, () -> net.port(node, node));
            check.thrown("16: no node " + node, NO_NODE, () -> net.bestByGraph(node));
            check.thrown("17: no node " + node, NO_NODE, () -> net.stepsByGraph(node));
        }
    }

    private void aStepEachTick() {
        TimeNet net = Nets.line(1, 2, 3);
        check.known("12 to 14, ahead of ticks", net, 2, 2, 0, -1);
        net.tick(1);
        check.known("12 to 14, a neighbour's own clock comes in one tick", net, 1, 0, 1, 0);
        check.known("12 to 14, and none from further", net, 2, 1, 1, 1);
        net.tick(1);
        check.known("12 to 14, two steps in two ticks", net, 2, 0, 2, 1);
        check.known("12 to 14, the best itself", net, 0, 0, 0, -1);
    }

    private void theBetterClock() {
        TimeNet net = new TimeNet();
        net.add(0, 9, 1000, 0);
        net.add(0, 8, 1000, 0);
        net.add(0, 9, 0, 0);
        net.link(0, 1, 0, 0);
        net.link(0, 2, 0, 0);
        net.tick(1);
        check.known("the class comes first", net, 0, 1, 1, 1);
        net.setClock(1, 9, 1);
        // Node 2 lets the old clock go in the third tick; its own is two steps from node 1.
        net.tick(5);
        check.known("then the variance", net, 1, 2, 2, 0);
        net.setClock(1, 9, 0);
        net.tick(3);
        check.known("then the lower node", net, 2, 1, 2, 0);
        net.setClock(0, 9, 0);
        net.tick(1);
        check.known("its own, of equals, when it is lower", net, 0, 0, 0, -1);
    }

    /** Node 4 is two steps from node 0 over 1, 2 or 3, and hears them at once. */
    private void theLowerNeighbour() {
        TimeNet net = Nets.nodes(0, 5, 5, 5, 9);
        net.link(4, 3, 0, 0);
        net.link(4, 2, 0, 0);
        net.link(0, 2, 0, 0);
        net.link(3, 0, 0, 0);
        net.tick(2);
        check.known("of equals the lower neighbour", net, 4, 0, 2, 2);
        net.link(4, 1, 0, 0);
        net.link(1, 0, 0, 0);
        net.tick(2);
        check.known("that comes later too", net, 4, 0, 2, 1);
        net.link(0, 4, 0, 0);
        net.tick(1);
        check.known("fewer steps come before", net, 4, 0, 1, 0);
    }

    private void fewerStepsComeBeforeTheLowerNeighbour() {
        TimeNet net = Nets.nodes(9, 9, 9, 0);
        net.link(0, 1, 0, 0);
        net.link(1, 3, 0, 0);
        net.link(0, 2, 0, 0);
        net.link(2, 1, 0, 0);
        net.tick(2);
        check.known("two steps over node 1", net, 0, 3, 2, 1);
        net.cut(1, 3);
        net.link(2, 3, 0, 0);
        net.tick(6);
        check.known("two steps over node 2, three over node 1", net, 0, 3, 2, 2);
    }

    private void notFromThoseWhoseParentItIs() {
        TimeNet net = Nets.line(0, 5);
        net.tick(1);
        check.known("14: a child", net, 1, 0, 1, 0);
        net.setClock(0, 200, 0);
        net.tick(1);
        check.known("its own clock does not come back from its child", net, 0, 0, 0, -1);
        check.known("the child knew it as it was", net, 1, 0, 1, 0);
        net.tick(1);
        check.known("the child hears what it is", net, 1, 1, 0, -1);
        net.tick(1);
        check.known("and becomes the parent", net, 0, 1, 1, 1);
    }

    private void notFromThoseThatKnewNineSteps() {
        TimeNet net = Nets.nodes(0, 9, 9, 9);
        net.link(0, 1, 0, 0);
        net.link(1, 2, 0, 0);
        net.link(2, 3, 0, 0);
        net.link(3, 1, 0, 0);
        net.tick(3);
        net.cut(0, 1);
        int most = 0;
        boolean sawNine = false;
        for (int n = 0; n < 20; n++) {
            net.tick(1);
            for (int node = 1; node < 4; node++) {
                most = Math.max(most, net.steps(node));
                sawNine |= net.steps(node) == 9 && net.best(node) == 0;
            }
        }
        check.due("a clock that is gone goes round up to 9 steps", most, 9);
        check.due("it was the one that is gone", sawNine, true);
        check.known("and is forgotten then", net, 3, 1, 1, 1);
        TimeNet ten = Nets.line(9, 8, 8, 8, 8, 8, 8, 8, 8, 0);
        ten.tick(9);
        check.known("13: nine steps are known", ten, 0, 9, 9, 1);
        check.due("17: nine steps by the graph", ten.stepsByGraph(0), 9);
        check.due("18: settled at nine steps", ten.isSettled(), true);
        ten.setOffset(0, 64);
        ten.tick(1);
        check.due("9: steered at nine steps too", ten.offset(0), 32);
    }

    private void promise15Ports() {
        TimeNet net = Nets.nodes(1, 9, 9, 9, 9);
        net.add(1, 0, 0, 0);
        net.link(0, 1, 0, 0);
        net.link(0, 2, 0, 0);
        net.link(1, 2, 0, 0);
        net.link(2, 3, 0, 0);
        net.link(3, 1, 0, 0);
        net.link(0, 5, 0, 0);
        check.due("15: ahead of ticks the lower number leads", net.port(0, 1), TimeNet.LEADS);
        check.due("15: ahead of ticks the higher number rests", net.port(1, 0), TimeNet.RESTS);
        net.tick(2);
        check.due("15: to the parent", net.port(1, 0), TimeNet.FOLLOWS);
        check.due("15: to a child", net.port(0, 1), TimeNet.LEADS);
        check.due("15: as many steps, lower number", net.port(1, 2), TimeNet.LEADS);
        check.due("15: as many steps, higher number", net.port(2, 1), TimeNet.RESTS);
        check.due("15: the parent is the lower one", net.port(3, 1), TimeNet.FOLLOWS);
        check.due("15: fewer steps", net.port(2, 3), TimeNet.LEADS);
        check.due("15: more steps", net.port(3, 2), TimeNet.RESTS);
        check.due("15: not linked", net.port(0, 3), TimeNet.NO_PORT);
        TimeNet ring = Nets.nodes(9, 9, 9, 0);
        ring.link(0, 1, 0, 0);
        ring.link(0, 2, 0, 0);
        ring.link(1, 3, 0, 0);
        ring.link(2, 3, 0, 0);
        ring.tick(2);
        check.due("15: fewer steps, higher number", ring.port(2, 0), TimeNet.LEADS);
        check.due("15: more steps, lower number", ring.port(0, 2), TimeNet.RESTS);
        check.due("15: no link at all", net.port(4, 0), TimeNet.NO_PORT);
        check.due("15: the same", net.port(1, 1), TimeNet.NO_PORT);
        check.due("15: of another domain", net.port(0, 5), TimeNet.NO_PORT);
        check.due("15: of another domain", net.port(5, 0), TimeNet.NO_PORT);
        net.cut(0, 1);
        check.due("15: cut", net.port(1, 0), TimeNet.NO_PORT);
        net.cut(2, 0);
        check.due("15: not yet heard of, the lower number leads", net.port(1, 2), TimeNet.LEADS);
        check.due("15: the child of one without parent", net.port(3, 1), TimeNet.FOLLOWS);
    }

    private void promises16And17ByGraph() {
        TimeNet net = Nets.nodes(9, 5, 5, 7);
        check.due("16: alone", net.bestByGraph(0), 0);
        check.due("17: alone", net.stepsByGraph(0), 0);
        net.link(0, 3, 0, 0);
        net.link(3, 2, 0, 0);
        check.due("16: over a neighbour, without a tick", net.bestByGraph(0), 2);
        check.due("17: over a neighbour", net.stepsByGraph(0), 2);
        net.link(2, 1, 0, 0);
        check.due("16: of equals the lower node, though further", net.bestByGraph(0), 1);
        check.due("17: further", net.stepsByGraph(0), 3);
        check.due("17: of the best itself", net.stepsByGraph(1), 0);
        net.link(1, 0, 0, 0);
        check.due("17: over the fewest links", net.stepsByGraph(0), 1);
        check.due("17: over the fewest links", net.stepsByGraph(3), 2);
        net.setClock(2, 5, 1);
        net.setClock(1, 5, 2);
        check.due("16: clocks as they are now", net.bestByGraph(0), 2);
        net.add(1, 0, 0, 0);
        net.link(4, 0, 0, 0);
        check.due("16: not over domains", net.bestByGraph(0), 2);
        check.due("16: not over domains", net.bestByGraph(4), 4);
        net.link(4, 3, 0, 0);
        net.cut(0, 3);
        net.cut(0, 1);
        check.due("16: nor through another domain", net.bestByGraph(0), 0);
    }

    private void promise18Settled() {
        TimeNet net = Nets.line(1, 2, 3);
        check.due("18: ahead of ticks", net.isSettled(), false);
        net.tick(1);
        check.due("18: when one lacks a step", net.isSettled(), false);
        net.tick(1);
        check.due("18: when all know", net.isSettled(), true);
        net.link(0, 2, 0, 0);
        check.due("18: when the steps are more than need be", net.isSettled(), false);
        net.tick(1);
        check.due("18: when they are the fewest", net.isSettled(), true);
        TimeNet other = Nets.line(0, 1, 4);
        other.tick(1);
        other.link(0, 2, 0, 0);
        check.due("18: one knows another clock, as far as the best", other.isSettled(), false);
        net.setClock(0, 0, 0);
        check.due("18: the node and the steps alone count", net.isSettled(), true);
        net.setClock(2, 0, 0);
        check.due("18: of equals the lower node is the best", net.isSettled(), true);
        net.setClock(0, 0, 1);
        check.due("18: when the best is another one", net.isSettled(), false);
        net.tick(2);
        check.due("18: when it is known", net.isSettled(), true);
        net.add(1, 0, 0, 0);
        check.due("18: with one more alone", net.isSettled(), true);
        net.add(1, 1, 0, 0);
        net.link(3, 4, 0, 0);
        check.due("18: all domains count", net.isSettled(), false);
    }

    public static void main(String[] args) {
        KnowledgeTest test = new KnowledgeTest();
        test.noSuchNode();
        test.aStepEachTick();
        test.theBetterClock();
        test.theLowerNeighbour();
        test.fewerStepsComeBeforeTheLowerNeighbour();
        test.notFromThoseWhoseParentItIs();
        test.notFromThoseThatKnewNineSteps();
        test.promise15Ports();
        test.promises16And17ByGraph();
        test.promise18Settled();
        test.check.end();
    }
}
