/**
 * Each argument at its least and its greatest value and at the first one beyond on either side, each exception, and
 * which one comes first. A refused call is looked at with Check.refused, so that it also leaves no trace.
 */
public final class EdgesOfCallsTest {
    private static final Class<IndexOutOfBoundsException> NO_NODE = IndexOutOfBoundsException.class;
    private static final Class<IllegalArgumentException> RANGE = IllegalArgumentException.class;
    private static final Class<IllegalStateException> STATE = IllegalStateException.class;

    private interface CallWith {
        long answer(TimeNet net, int value);
    }

    private final Check check = new Check("EdgesOfCallsTest");

    private void beyond(String what, Check.Maker maker, int least, int most, CallWith call) {
        for (int value : new int[] {least - 1, most + 1, Integer.MIN_VALUE, Integer.MAX_VALUE}) {
            check.refused(what + " " + value, RANGE, maker, net -> call.answer(net, value));
        }
    }

    private void within(String what, Check.Maker maker, int value, CallWith call, long want) {
        TimeNet net = maker.make();
        check.judge(what + " " + value, Check.outcome(() -> call.answer(net, value)), Long.toString(want));
    }

    private void noSuchNode(String what, CallWith call) {
        check.refused(what + " without nodes, 0", NO_NODE, Nets::none, net -> call.answer(net, 0));
        check.refused(what + " without nodes, -1", NO_NODE, Nets::none, net -> call.answer(net, -1));
        check.refused(what + " of one node, 1", NO_NODE, Nets::one, net -> call.answer(net, 1));
        check.refused(what + " of one node, -1", NO_NODE, Nets::one, net -> call.answer(net, -1));
        for (int node : new int[] {-1, 4, 10, Integer.MIN_VALUE, Integer.MAX_VALUE}) {
            check.refused(what + " of four nodes, " + node, NO_NODE, Nets::built, net -> call.answer(net, node));
        }
        for (int node : new int[] {-1, 10, 11, 100}) {
            check.refused(what + " of ten nodes, " + node, NO_NODE, Nets::ten, net -> call.answer(net, node));
        }
    }

    // ---- promise 2

    private void addDomain() {
        CallWith add = (net, domain) -> net.add(domain, 1, 1, 1);
        within("2: domain", Nets::built, 0, add, 4);
        within("2: domain", Nets::built, 1, add, 4);
        beyond("2: domain", Nets::built, 0, 1, add);
        beyond("2: domain of the first node", Nets::none, 0, 1, add);
    }

    private void addGrade() {
        CallWith add = (net, grade) -> net.setClock(net.add(0, grade, 1, 1), 1, 1);
        within("2: grade", Nets::built, 0, add, 0);
        within("2: grade", Nets::built, 255, add, 255);
        beyond("2: grade", Nets::built, 0, 255, add);
        beyond("2: grade of the first node", Nets::none, 0, 255, add);
    }

    private void addVariance() {
        // Beside the node that is there, of variance 1 and then of 999, the new one is better, and then it is not.
        CallWith add = (net, variance) -> {
            net.setClock(0, 7, variance == 0 ? 1 : 999);
            net.link(0, net.add(0, 7, variance, 0), 0, 0);
            return net.bestByGraph(0);
        };
        within("2: variance", Nets::one, 0, add, 1);
        within("2: variance", Nets::one, 1000, add, 0);
        CallWith alone = (net, variance) -> net.add(0, 1, variance, 1);
        beyond("2: variance", Nets::built, 0, 1000, alone);
        beyond("2: variance of the first node", Nets::none, 0, 1000, alone);
    }

    private void addDrift() {
        CallWith add = (net, drift) -> net.setDrift(net.add(0, 1, 1, drift), 0);
        within("2: drift", Nets::built, -100, add, -100);
        within("2: drift", Nets::built, 100, add, 100);
        beyond("2: drift", Nets::built, -100, 100, add);
        beyond("2: drift of the first node", Nets::none, -100, 100, add);
    }

    private void addUpToTenNodes() {
        TimeNet net = Nets.none();
        for (int node = 0; node < 10; node++) {
            check.due("2: numbered from 0", net.add(node % 2, 0, 0, 0), node);
        }
        check.due("2: ten nodes", net.nodes(), 10);
        check.refused("2: an eleventh", STATE, Nets::ten, ten -> ten.add(0, 0, 0, 0));
        check.refused("2: an eleventh of the other domain", STATE, Nets::ten, ten -> ten.add(1, 0, 0, 0));
    }

    private void addOutOfRangeComesBeforeTenNodes() {
        check.refused("2: ten nodes, domain 2", RANGE, Nets::ten, net -> net.add(2, 0, 0, 0));
        check.refused("2: ten nodes, grade 256", RANGE, Nets::ten, net -> net.add(0, 256, 0, 0));
        check.refused("2: ten nodes, variance 1001", RANGE, Nets::ten, net -> net.add(0, 0, 1001, 0));
        check.refused("2: ten nodes, drift 101", RANGE, Nets::ten, net -> net.add(0, 0, 0, 101));
        check.refused("2: ten nodes, domain -1", RANGE, Nets::ten, net -> net.add(-1, 0, 0, 0));
        check.refused("2: ten nodes, grade -1", RANGE, Nets::ten, net -> net.add(0, -1, 0, 0));
        check.refused("2: ten nodes, variance -1", RANGE, Nets::ten, net -> net.add(0, 0, -1, 0));
        check.refused("2: ten nodes, drift -101", RANGE, Nets::ten, net -> net.add(0, 0, 0, -101));
    }

    // ---- promise 3

    private void setClockNode() {
        noSuchNode("3: setClock", (net, node) -> net.setClock(node, 1, 1));
        within("3: setClock of one node,", Nets::one, 0, (net, node) -> net.setClock(node, 1, 1), 7);
        within("3: setClock of ten nodes,", Nets::ten, 9, (net, node) -> net.setClock(node, 1, 1), 7);
    }

    private void setClockGrade() {
        CallWith twice = (net, grade) -> {
            net.setClock(0, grade, 1);
            return net.setClock(0, 1, 1);
        };
        within("3: grade", Nets::built, 0, twice, 0);
        within("3: grade", Nets::built, 255, twice, 255);
        beyond("3: grade", Nets::built, 0, 255, (net, grade) -> net.setClock(0, grade, 1));
    }

    private void setClockVariance() {
        // Node 2 has class 7 and variance 499, and becomes the best, and then not.
        within("3: variance", Nets::built, 0, (net, variance) -> {
            net.setClock(2, 7, 1);
            net.setClock(0, 7, variance);
            return net.bestByGraph(2);
        }, 0);
        within("3: variance", Nets::built, 1000, (net, variance) -> {
            net.setClock(1, 8, 0);
            net.setClock(2, 7, 999);
            net.setClock(0, 7, variance);
            return net.bestByGraph(2);
        }, 2);
        beyond("3: variance", Nets::built, 0, 1000, (net, variance) -> net.setClock(0, 1, variance));
    }

    private void setClockNoNodeComesFirst() {
        check.refused("3: no node, grade 256", NO_NODE, Nets::built, net -> net.setClock(4, 256, 0));
        check.refused("3: no node, grade -1", NO_NODE, Nets::built, net -> net.setClock(-1, -1, 0));
        check.refused("3: no node, variance 1001", NO_NODE, Nets::built, net -> net.setClock(4, 0, 1001));
        check.refused("3: no node, variance -1", NO_NODE, Nets::none, net -> net.setClock(0, 0, -1));
    }

    // ---- promise 4

    private void setDriftNode() {
        noSuchNode("4: setDrift", (net, node) -> net.setDrift(node, 1));
        within("4: setDrift of one node,", Nets::one, 0, (net, node) -> net.setDrift(node, 1), 0);
        within("4: setDrift of ten nodes,", Nets::ten, 9, (net, node) -> net.setDrift(node, 1), 0);
    }

    private void setDriftDrift() {
        CallWith set = (net, drift) -> {
            net.setDrift(0, drift);
            net.tick(1);
            return net.offset(0);
        };
        within("4: drift", Nets::one, -100, set, -100);
        within("4: drift", Nets::one, 100, set, 100);
        beyond("4: drift", Nets::built, -100, 100, (net, drift) -> net.setDrift(0, drift));
    }

    private void setDriftNoNodeComesFirst() {
        check.refused("4: no node, drift 101", NO_NODE, Nets::built, net -> net.setDrift(4, 101));
        check.refused("4: no node, drift -101", NO_NODE, Nets::none, net -> net.setDrift(0, -101));
    }

    // ---- promise 5

    private void setOffsetNode() {
        noSuchNode("5: setOffset", (net, node) -> net.setOffset(node, 1));
        within("5: setOffset of one node,", Nets::one, 0, (net, node) -> net.setOffset(node, 1), 0);
        within("5: setOffset of ten nodes,", Nets::ten, 9, (net, node) -> net.setOffset(node, 1), 0);
    }

    private void setOffsetOffset() {
        CallWith twice = (net, offset) -> {
            net.setOffset(0, offset);
            return net.setOffset(0, 1);
        };
        within("5: offset", Nets::built, -1000000, twice, -1000000);
        within("5: offset", Nets::built, 1000000, twice, 1000000);
        beyond("5: offset", Nets::built, -1000000, 1000000, (net, offset) -> net.setOffset(0, offset));
    }

    private void setOffsetNoNodeComesFirst() {
        check.refused("5: no node, offset 1000001", NO_NODE, Nets::built, net -> net.setOffset(4, 1000001));
        check.refused("5: no node, offset -1000001", NO_NODE, Nets::none, net -> net.setOffset(0, -1000001));
    }

    // ---- promise 6

    private void linkNode() {
        noSuchNode("6: link, one", (net, node) -> net.link(node, 0, 1, 1));
        noSuchNode("6: link, other", (net, node) -> net.link(0, node, 1, 1));
        noSuchNode("6: link, both", (net, node) -> net.link(node, node, 1, 1));
        within("6: link of ten nodes, one", Nets::ten, 9, (net, node) -> net.link(node, 0, 1, 1), 10);
        within("6: link of ten nodes, other", Nets::ten, 9, (net, node) -> net.link(0, node, 1, 1), 10);
    }

    private void linkWithItself() {
        check.refused("6: the only node with itself", RANGE, Nets::one, net -> net.link(0, 0, 1, 1));
        for (int node = 0; node < 4; node++) {
            final int both = node;
            check.refused("6: with itself, " + node, RANGE, Nets::built, net -> net.link(both, both, 1, 1));
        }
    }

    /** Half of the error is steered, and the error is half of the delay that the other direction lacks. */
    private void linkThere() {
        CallWith link = (net, there) -> {
            net.link(0, 1, there, 0);
            net.tick(1);
            return net.offset(1);
        };
        Check.Maker pair = () -> Nets.nodes(1, 2);
        within("6: there", pair, 0, link, 0);
        within("6: there", pair, 100000, link, -25000);
        beyond("6: there", pair, 0, 100000, (net, there) -> net.link(0, 1, there, 0));
        beyond("6: there", Nets::built, 0, 100000, (net, there) -> net.link(2, 0, there, 0));
    }

    private void linkBack() {
        CallWith link = (net, back) -> {
            net.link(0, 1, 0, back);
            net.tick(1);
            return net.offset(1);
        };
        Check.Maker pair = () -> Nets.nodes(1, 2);
        within("6: back", pair, 0, link, 0);
        within("6: back", pair, 100000, link, 25000);
        beyond("6: back", pair, 0, 100000, (net, back) -> net.link(0, 1, 0, back));
        beyond("6: back", Nets::built, 0, 100000, (net, back) -> net.link(2, 0, 0, back));
    }

    private void linkLinked() {
        check.refused("6: linked", STATE, Nets::built, net -> net.link(0, 1, 100000, 0));
        check.refused("6: linked, the other way", STATE, Nets::built, net -> net.link(1, 0, 100000, 0));
        check.refused("6: linked over domains", STATE, Nets::built, net -> net.link(0, 3, 1, 2));
        check.refused("6: linked over domains, the other way", STATE, Nets::built, net -> net.link(3, 0, 1, 2));
        within("6: not linked,", Nets::built, 3, (net, other) -> net.link(2, other, 0, 0), 4);
        within("6: linked, cut, linked again,", Nets::built, 1, (net, other) -> {
            net.cut(other, 0);
            return net.link(0, other, 0, 0);
        }, 3);
    }

    private void linkNoNodeComesFirst() {
        check.refused("6: no node twice, both the same", NO_NODE, Nets::built, net -> net.link(4, 4, 0, 0));
        check.refused("6: no node, there -1", NO_NODE, Nets::built, net -> net.link(4, 0, -1, 0));
        check.refused("6: no node, there 100001", NO_NODE, Nets::built, net -> net.link(-1, 0, 100001, 0));
        check.refused("6: no other, back -1", NO_NODE, Nets::built, net -> net.link(0, 4, 0, -1));
        check.refused("6: no other, back 100001", NO_NODE, Nets::built, net -> net.link(0, -1, 0, 100001));
    }

    private void linkOutOfRangeComesBeforeLinked() {
        check.refused("6: linked, there -1", RANGE, Nets::built, net -> net.link(0, 1, -1, 0));
        check.refused("6: linked, there 100001", RANGE, Nets::built, net -> net.link(1, 0, 100001, 0));
        check.refused("6: linked, back -1", RANGE, Nets::built, net -> net.link(0, 1, 0, -1));
        check.refused("6: linked, back 100001", RANGE, Nets::built, net -> net.link(1, 0, 0, 100001));
    }

    private void linkUpToAll() {
        TimeNet net = new TimeNet();
        for (int node = 0; node < 10; node++) {
            net.add(node % 2, 1, 1, 0);
        }
        int links = 0;
        for (int one = 0; one < 10; one++) {
            for (int other = one + 1; other < 10; other++) {
                links++;
                check.due("6: how many links there are then", net.link(other, one, 0, 0), links);
            }
        }
        check.due("6: all of ten nodes are linked", net.links(), 45);
        check.thrown("6: at most one any two", STATE, () -> net.link(9, 8, 0, 0));
    }

    // ---- promise 7

    private void cutNode() {
        noSuchNode("7: cut, one", (net, node) -> net.cut(node, 0));
        noSuchNode("7: cut, other", (net, node) -> net.cut(0, node));
        noSuchNode("7: cut, both", (net, node) -> net.cut(node, node));
        within("7: cut of ten nodes, one", Nets::ten, 9, (net, node) -> net.cut(node, 8), 8);
        within("7: cut of ten nodes, other", Nets::ten, 9, (net, node) -> net.cut(8, node), 8);
    }

    private void cutNotLinked() {
        check.refused("7: not linked", STATE, Nets::built, net -> net.cut(0, 2));
        check.refused("7: not linked, the other way", STATE, Nets::built, net -> net.cut(2, 0));
        check.refused("7: a node with itself", STATE, Nets::built, net -> net.cut(1, 1));
        check.refused("7: the only node with itself", STATE, Nets::one, net -> net.cut(0, 0));
        TimeNet net = Nets.built();
        check.due("7: linked", net.cut(1, 0), 2);
        check.thrown("7: cut already", STATE, () -> net.cut(1, 0));
        check.thrown("7: cut already, the other way", STATE, () -> net.cut(0, 1));
    }

    private void cutDownToNone() {
        TimeNet net = Nets.built();
        check.due("7: how many links there are then", net.cut(3, 0), 2);
        check.due("7: how many links there are then", net.cut(1, 2), 1);
        check.due("7: none", net.cut(0, 1), 0);
        check.due("7: none", net.links(), 0);
    }

    // ---- promise 8

    private void tellNode() {
        noSuchNode("8: tell, one", (net, node) -> net.tell(node, 0, 1));
        noSuchNode("8: tell, other", (net, node) -> net.tell(0, node, 1));
        noSuchNode("8: tell, both", (net, node) -> net.tell(node, node, 1));
        within("8: tell of ten nodes, one", Nets::ten, 9, (net, node) -> net.tell(node, 8, 1), 0);
        within("8: tell of ten nodes, other", Nets::ten, 9, (net, node) -> net.tell(8, node, 1), 0);
    }

    private void tellDifference() {
        CallWith twice = (net, difference) -> {
            net.tell(0, 1, difference);
            return net.tell(0, 1, 1);
        };
        within("8: difference", Nets::built, -100000, twice, -100000);
        within("8: difference", Nets::built, 100000, twice, 100000);
        beyond("8: difference", Nets::built, -100000, 100000, (net, difference) -> net.tell(0, 1, difference));
        beyond("8: difference", Nets::built, -100000, 100000, (net, difference) -> net.tell(1, 0, difference));
    }

    private void tellNotLinked() {
        check.refused("8: not linked", STATE, Nets::built, net -> net.tell(0, 2, 5));
        check.refused("8: not linked, the other way", STATE, Nets::built, net -> net.tell(2, 0, 5));
        check.refused("8: a node with itself", STATE, Nets::built, net -> net.tell(1, 1, 5));
        check.refused("8: the only node with itself", STATE, Nets::one, net -> net.tell(0, 0, 0));
        within("8: linked over domains,", Nets::built, 3, (net, other) -> net.tell(0, other, 5), 0);
        TimeNet net = Nets.built();
        net.cut(0, 1);
        check.thrown("8: cut", STATE, () -> net.tell(0, 1, 5));
    }

    /** What is told to no avail must not stand when the two are linked later. */
    private void tellNotLinkedLeavesNothing() {
        TimeNet net = Nets.nodes(1, 2);
        check.thrown("8: not linked", STATE, () -> net.tell(0, 1, 5));
        net.link(0, 1, 0, 0);
        check.due("8: 0 at first", net.tell(0, 1, 7), 0);
        net.cut(0, 1);
        net.link(1, 0, 0, 0);
        check.due("8: 0 at first, of a link that is laid again", net.tell(0, 1, 9), 0);
    }

    private void tellOrderOfExceptions() {
        check.refused("8: no node, 100001", NO_NODE, Nets::built, net -> net.tell(4, 0, 100001));
        check.refused("8: no other, -100001", NO_NODE, Nets::built, net -> net.tell(0, -1, -100001));
        check.refused("8: not linked, 100001", RANGE, Nets::built, net -> net.tell(0, 2, 100001));
        check.refused("8: not linked, -100001", RANGE, Nets::built, net -> net.tell(2, 0, -100001));
        check.refused("8: a node with itself, 100001", RANGE, Nets::built, net -> net.tell(1, 1, 100001));
    }

    // ---- promise 9

    private void tickTicks() {
        beyond("9: ticks", Nets::built, 1, 50, (net, ticks) -> net.tick(ticks));
        beyond("9: ticks without nodes", Nets::none, 1, 50, (net, ticks) -> net.tick(ticks));
        within("9: ticks", Nets::none, 1, (net, ticks) -> net.tick(ticks), 1);
        within("9: ticks", Nets::none, 50, (net, ticks) -> net.tick(ticks), 50);
        within("9: ticks after three", Nets::built, 50, (net, ticks) -> net.tick(ticks), 53);
        CallWith refusedFirst = (net, ticks) -> {
            check.thrown("9: 51 ticks", RANGE, () -> net.tick(51));
            check.thrown("9: no ticks", RANGE, () -> net.tick(0));
            return net.tick(ticks);
        };
        within("9: ticks after refused ones", Nets::built, 1, refusedFirst, 4);
    }

    // ---- promises 12 to 21

    private void askedNode() {
        noSuchNode("12: best", (net, node) -> net.best(node));
        noSuchNode("13: steps", (net, node) -> net.steps(node));
        noSuchNode("14: parent", (net, node) -> net.parent(node));
        noSuchNode("16: bestByGraph", (net, node) -> net.bestByGraph(node));
        noSuchNode("17: stepsByGraph", (net, node) -> net.stepsByGraph(node));
        noSuchNode("19: offset", (net, node) -> net.offset(node));
        noSuchNode("20: rate", (net, node) -> net.rate(node));
    }

    private void askedTheLastOfTen() {
        Check.Maker ticked = () -> {
            TimeNet net = Nets.ten();
            net.setOffset(9, 160);
            net.tick(9);
            return net;
        };
        within("12: best of ten nodes,", ticked, 9, (net, node) -> net.best(node), 0);
        within("13: steps of ten nodes,", ticked, 9, (net, node) -> net.steps(node), 9);
        within("14: parent of ten nodes,", ticked, 9, (net, node) -> net.parent(node), 8);
        within("15: port of ten nodes,", ticked, 9, (net, node) -> net.port(node, 8), TimeNet.FOLLOWS);
        within("15: port of ten nodes, other", ticked, 9, (net, node) -> net.port(8, node), TimeNet.LEADS);
        within("16: bestByGraph of ten nodes,", ticked, 9, (net, node) -> net.bestByGraph(node), 0);
        within("17: stepsByGraph of ten nodes,", ticked, 9, (net, node) -> net.stepsByGraph(node), 9);
        Check.Maker set = () -> {
            TimeNet net = Nets.ten();
            net.setOffset(9, 161);
            net.tick(1);
            return net;
        };
        // 161 is measured from node 8: 80 of the offset, 10 of the rate.
        within("19: offset of ten nodes,", set, 9, (net, node) -> net.offset(node), 81);
        within("20: rate of ten nodes,", set, 9, (net, node) -> net.rate(node), -10);
    }

    private void portNode() {
        noSuchNode("15: port, node", (net, node) -> net.port(node, 0));
        noSuchNode("15: port, other", (net, node) -> net.port(0, node));
        // No such node comes before "the same".
        noSuchNode("15: port, both", (net, node) -> net.port(node, node));
    }

    private void spreadDomain() {
        beyond("21: domain", Nets::built, 0, 1, (net, domain) -> net.spread(domain));
        beyond("21: domain without nodes", Nets::none, 0, 1, (net, domain) -> net.spread(domain));
        within("21: domain without nodes", Nets::none, 0, (net, domain) -> net.spread(domain), 0);
        within("21: domain without nodes", Nets::none, 1, (net, domain) -> net.spread(domain), 0);
    }

    // ---- of one object

    /** 9 nodes and links made by 17 calls; the 512th call is still answered as it is due. */
    private void the512thCall() {
        TimeNet net = Nets.line(1, 2, 3, 4, 5, 6, 7, 8, 9);
        for (int call = 18; call < 512; call++) {
            net.tick(50);
        }
        check.due("the 512th call", net.tick(50), 495 * 50);
    }

    private void twoObjectsShareNothing() {
        TimeNet one = Nets.built();
        String before = State.of(one);
        TimeNet other = new TimeNet();
        check.due("1: another object begins without nodes", other.nodes(), 0);
        check.due("1: and without links", other.links(), 0);
        check.due("1: and without ticks", other.tick(2), 2);
        check.due("1: and numbers from 0", other.add(1, 0, 0, 100), 0);
        other.setOffset(0, 1000000);
        check.judge("1: the first object", State.of(one), before);
        check.due("1: its ticks", one.tick(1), 4);
    }

    private void refusals() {
        addDomain();
        addGrade();
        addVariance();
        addDrift();
        addUpToTenNodes();
        addOutOfRangeComesBeforeTenNodes();
        setClockNode();
        setClockGrade();
        setClockVariance();
        setClockNoNodeComesFirst();
        setDriftNode();
        setDriftDrift();
        setDriftNoNodeComesFirst();
        setOffsetNode();
        setOffsetOffset();
        setOffsetNoNodeComesFirst();
    }

    private void refusalsOfLinks() {
        linkNode();
        linkWithItself();
        linkThere();
        linkBack();
        linkLinked();
        linkNoNodeComesFirst();
        linkOutOfRangeComesBeforeLinked();
        linkUpToAll();
        cutNode();
        cutNotLinked();
        cutDownToNone();
        tellNode();
        tellDifference();
        tellNotLinked();
        tellNotLinkedLeavesNothing();
        tellOrderOfExceptions();
    }

    public static void main(String[] args) {
        EdgesOfCallsTest test = new EdgesOfCallsTest();
        test.refusals();
        test.refusalsOfLinks();
        test.tickTicks();
        test.askedNode();
        test.askedTheLastOfTen();
        test.portNode();
        test.spreadDomain();
        test.the512thCall();
        test.twoObjectsShareNothing();
        test.check.end();
    }
}
