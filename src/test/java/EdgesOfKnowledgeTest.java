/** The boundary cases of what is known: the order of clocks, what is announced and what is not, cuts, ports, the graph. */
public final class EdgesOfKnowledgeTest {
    private static final int NONE = TimeNet.NONE;

    private final Check check = new Check("EdgesOfKnowledgeTest");

    /** Ten nodes of the worst clock, without links. */
    private static TimeNet tenWorst() {
        TimeNet net = new TimeNet();
        for (int node = 0; node < 10; node++) {
            net.add(0, 255, 1000, 0);
        }
        return net;
    }

    // ---- no nodes, one node, a node just added

    private void noNodes() {
        TimeNet net = Nets.none();
        check.due("1: nodes", net.nodes(), 0);
        check.due("1: links", net.links(), 0);
        check.due("18: settled without nodes", net.isSettled(), true);
        net.tick(50);
        check.due("18: settled without nodes after ticks", net.isSettled(), true);
    }

    private void oneNode() {
        TimeNet net = Nets.one();
        for (int ticks = 0; ticks < 3; ticks++) {
            check.known("one node after " + ticks + " ticks", net, 0, 0, 0, NONE);
            check.due("16: one node", net.bestByGraph(0), 0);
            check.due("17: one node", net.stepsByGraph(0), 0);
            check.due("18: one node", net.isSettled(), true);
            check.due("15: one node with itself", net.port(0, 0), TimeNet.NO_PORT);
            net.tick(1);
        }
    }

    private void addedLater() {
        TimeNet net = Nets.line(1, 2);
        net.tick(3);
        check.due("2: added later", net.add(0, 0, 0, 0), 2);
        check.known("2: it knows itself", net, 2, 2, 0, NONE);
        net.link(2, 1, 0, 0);
        check.known("2: linked, it knows itself still", net, 2, 2, 0, NONE);
        check.known("2: and the other one what it knew", net, 1, 0, 1, 0);
        net.tick(1);
        check.known("2: its own class is announced in the next tick", net, 1, 2, 1, 2);
    }

    private void addedWithTheClockItKnows() {
        TimeNet net = new TimeNet();
        net.add(0, 7, 1, 0);
        net.add(0, 7, 0, 0);
        net.link(0, 1, 0, 0);
        // What the node knew when it was added is announced once, whatever it has become.
        net.setClock(1, 7, 2);
        net.tick(1);
        check.known("2: its own variance, as when it was added", net, 0, 1, 1, 1);
        net.tick(2);
        check.known("2: as it is now, from then on", net, 0, 0, 0, NONE);
    }

    // ---- the order of clocks

    private void better(String what, TimeNet net, int one, int other, int winner) {
        int loser = one + other - winner;
        net.link(one, other, 0, 0);
        check.due(what + ", by the graph", net.bestByGraph(loser), winner);
        check.due(what + ", by the graph for itself", net.bestByGraph(winner), winner);
        net.tick(1);
        check.known(what + ", the worse", net, loser, winner, 1, winner);
        check.known(what + ", the better", net, winner, winner, 0, NONE);
    }

    private void lowerClassComesFirst() {
        TimeNet net = tenWorst();
        net.setClock(0, 1, 0);
        net.setClock(9, 0, 1000);
        net.tick(1);
        better("class 0 with the highest variance and number", net, 0, 9, 9);
        net = tenWorst();
        net.setClock(0, 255, 0);
        net.setClock(9, 254, 1000);
        net.tick(1);
        better("class 254 with the highest variance and number", net, 0, 9, 9);
    }

    private void thenTheLowerVariance() {
        TimeNet net = tenWorst();
        net.setClock(0, 255, 1);
        net.setClock(9, 255, 0);
        net.tick(1);
        better("variance 0 with the highest number", net, 0, 9, 9);
        net = tenWorst();
        net.setClock(0, 0, 1000);
        net.setClock(9, 0, 999);
        net.tick(1);
        better("variance 999 with the highest number", net, 9, 0, 9);
    }

    private void thenTheLowerNode() {
        better("all the same, 0 and 9", tenWorst(), 9, 0, 0);
        better("all the same, 8 and 9", tenWorst(), 8, 9, 8);
        better("all the same, 0 and 1", tenWorst(), 1, 0, 0);
    }

    /** Node 8 hears node 0, eight steps away, and node 9 beside it, which is as good but for its number. */
    private void theLowerNodeComesBeforeFewerSteps() {
        TimeNet net = Nets.line(5, 6, 6, 6, 6, 6, 6, 6, 6, 5);
        net.tick(8);
        check.known("the lower node at eight steps", net, 8, 0, 8, 7);
        net.tick(1);
        check.known("the lower node at nine steps, before itself", net, 9, 0, 9, 8);
    }

    /** Node 0 hears node 9 from node 1, over two steps, and from node 8, over one more or one less. */
    private void thenFewerSteps() {
        TimeNet net = Nets.nodes(5, 5, 5, 5, 5, 5, 5, 5, 5, 0);
        net.link(0, 1, 0, 0);
        net.link(1, 2, 0, 0);
        net.link(2, 9, 0, 0);
        net.link(0, 8, 0, 0);
        net.link(8, 9, 0, 0);
        net.tick(5);
        check.known("two steps over the higher neighbour, three over the lower", net, 0, 9, 2, 8);
        net.cut(8, 9);
        net.tick(10);
        check.known("three steps over the lower neighbour alone", net, 0, 9, 3, 1);
        check.known("what it knows goes on", net, 8, 9, 4, 0);
    }

    private void thenTheLowerNeighbour() {
        TimeNet net = Nets.nodes(5, 5, 5, 5, 5, 5, 5, 5, 5, 0);
        for (int between = 8; between > 0; between--) {
            net.link(9, between, 0, 0);
            net.link(0, between, 0, 0);
        }
        net.tick(2);
        for (int between = 1; between < 9; between++) {
            check.known("of equals the lowest neighbour", net, 0, 9, 2, between);
            net.cut(between, 0);
            check.known("the parent is cut off", net, 0, 0, 0, NONE);
            net.tick(1);
        }
        check.known("all are cut off", net, 0, 0, 0, NONE);
    }

    /** Node 2 has heard node 0 over node 1 when it is linked with it, and tells node 0 its own clock. */
    private void itsOwnComesFirst() {
        TimeNet net = Nets.line(1, 2, 2);
        net.tick(2);
        check.known("two steps over node 1", net, 2, 0, 2, 1);
        net.link(0, 2, 0, 0);
        net.tick(1);
        check.known("its own clock, not over three steps from node 2", net, 0, 0, 0, NONE);
        check.known("one step", net, 2, 0, 1, 0);
    }

    /** Of one domain with links in a line, all announce at once: a clock goes one step each tick, up and down. */
    private void allAtOnce() {
        TimeNet up = Nets.line(0, 5, 5, 5);
        TimeNet down = Nets.line(5, 5, 5, 0);
        for (int ticks = 1; ticks < 4; ticks++) {
            up.tick(1);
            down.tick(1);
            for (int far = 1; far < 4; far++) {
                boolean heard = far <= ticks;
                check.due("12: up, after " + ticks + " ticks", up.best(far) == 0, heard);
                check.due("12: down, after " + ticks + " ticks", down.best(3 - far) == 3, heard);
                check.due("13: up, after " + ticks + " ticks", !heard || up.steps(far) == far, true);
                check.due("13: down, after " + ticks + " ticks", !heard || down.steps(3 - far) == far, true);
            }
        }
    }

    /** Seven at once are as seven one by one, and no more than that. */
    private void ticksAtOnce() {
        TimeNet net = Nets.ten();
        net.tick(7);
        check.known("after seven ticks", net, 7, 0, 7, 6);
        check.known("the next one knows its neighbour's clock of the tick before", net, 8, 1, 7, 7);
        check.due("18: nodes 8 and 9 do not know yet", net.isSettled(), false);
        net.tick(1);
        check.due("18: node 9 does not know yet", net.isSettled(), false);
        net.tick(1);
        check.due("18: all know", net.isSettled(), true);
    }

    // ---- what is announced and what is not

    private void itselfAsItIsNow() {
        TimeNet net = Nets.line(1, 2);
        net.tick(1);
        net.setClock(1, 0, 0);
        check.known("3: not known ahead of the next announcement", net, 1, 0, 1, 0);
        check.due("16: by the graph at once", net.bestByGraph(1), 1);
        net.tick(1);
        check.known("3: known to itself with the next announcement", net, 1, 1, 0, NONE);
        check.known("3: but not to others", net, 0, 0, 0, NONE);
        net.tick(1);
        check.known("3: to others with the one after", net, 0, 1, 1, 1);
    }

    private void aWorseClockIsKnownALittleLonger() {
        TimeNet net = Nets.line(1, 2);
        net.setClock(0, 3, 0);
        net.tick(1);
        check.known("3: what it knew ahead is announced", net, 1, 0, 1, 0);
        net.tick(1);
        check.known("3: then what it is now", net, 1, 1, 0, NONE);
        check.known("3: it hears nothing of its child", net, 0, 0, 0, NONE);
        net.tick(1);
        check.known("3: then it hears of it", net, 0, 1, 1, 1);
    }

    private void nothingIsRemembered() {
        TimeNet net = Nets.line(0, 5, 9);
        net.tick(2);
        net.cut(0, 1);
        net.tick(1);
        check.known("the parent knows itself, which is worse than what was known", net, 2, 1, 1, 1);
    }

    /**
     * A clock that is gone goes round in a ring of three; each row is worked out by hand: best, steps and parent of
     * nodes 1, 2 and 3 after a tick more.
     */
    private void upToNineSteps() {
        TimeNet net = Nets.nodes(0, 9, 9, 9);
        net.link(0, 1, 0, 0);
        net.link(1, 2, 0, 0);
        net.link(2, 3, 0, 0);
        net.link(3, 1, 0, 0);
        net.tick(3);
        net.cut(0, 1);
        int[][] rows = {
            {1, 0, NONE, 0, 2, 1, 0, 2, 1}, {1, 0, NONE, 0, 3, 3, 0, 3, 2}, {0, 4, 2, 1, 1, 1, 1, 1, 1},
            {1, 0, NONE, 1, 2, 3, 0, 5, 1}, {1, 0, NONE, 0, 6, 3, 1, 1, 1}, {0, 7, 2, 1, 1, 1, 1, 1, 1},
            {1, 0, NONE, 1, 2, 3, 0, 8, 1}, {1, 0, NONE, 0, 9, 3, 1, 1, 1}, {1, 0, NONE, 1, 1, 1, 1, 1, 1},
        };
        for (int ticks = 0; ticks < rows.length; ticks++) {
            int[] row = rows[ticks];
            for (int node = 1; node < 4; node++) {
                check.known("a clock that is gone, after " + ticks + " ticks", net, node,
                    row[3 * node - 3], row[3 * node - 2], row[3 * node - 1]);
            }
            net.tick(1);
        }
    }

    private void eightStepsAreAnnounced() {
        TimeNet net = Nets.ten();
        net.tick(8);
        check.known("eight steps", net, 8, 0, 8, 7);
        check.known("its neighbour knew seven steps to the next clock", net, 9, 1, 8, 8);
        net.tick(1);
        check.known("nine steps", net, 9, 0, 9, 8);
        net.tick(1);
        check.known("nine steps stay", net, 9, 0, 9, 8);
    }

    private void notFromItsChild() {
        TimeNet net = Nets.line(0, 5);
        net.tick(1);
        check.known("a child", net, 1, 0, 1, 0);
        net.setClock(0, 6, 0);
        net.tick(1);
        // The child's clock of class 0 is that of node 0 itself, and would be better than what it is now.
        check.known("what its child knows from it is not heard", net, 0, 0, 0, NONE);
    }

    /** Node 2 is not a child of node 0, though it knows the clock of node 0. */
    private void fromTheChildOfItsChild() {
        TimeNet net = Nets.line(0, 5, 5);
        net.tick(2);
        check.known("a child of a child", net, 2, 0, 2, 1);
        net.setClock(0, 200, 0);
        net.link(0, 2, 0, 0);
        net.tick(1);
        check.known("its own clock as it was, over three steps", net, 0, 0, 3, 2);
    }

    // ---- links over domains

    private void overDomainsNothingIsCarried() {
        TimeNet net = Nets.line(5, 6);
        net.add(1, 0, 0, 0);
        net.add(1, 1, 0, 0);
        check.due("a link over domains counts", net.link(0, 2, 0, 100000), 2);
        check.due("a link over domains counts", net.link(3, 1, 0, 100000), 3);
        net.setOffset(2, 1000);
        net.tick(5);
        for (int node = 0; node < 4; node++) {
            boolean isChild = node == 1;
            check.known("over domains", net, node, isChild ? 0 : node, isChild ? 1 : 0, isChild ? 0 : NONE);
            check.due("16: over domains", net.bestByGraph(node), isChild ? 0 : node);
            check.due("17: over domains", net.stepsByGraph(node), isChild ? 1 : 0);
            check.due("19: over domains", net.offset(node), node == 2 ? 1000 : 0);
        }
        check.due("15: over domains", net.port(0, 2), TimeNet.NO_PORT);
        check.due("15: over domains, the other way", net.port(2, 0), TimeNet.NO_PORT);
        check.due("18: over domains", net.isSettled(), true);
        net.cut(2, 0);
        check.known("7: cut over domains", net, 1, 0, 1, 0);
    }

    private void domain1IsAsDomain0() {
        TimeNet net = new TimeNet();
        net.add(1, 9, 0, 0);
        net.add(1, 8, 0, 0);
        net.link(0, 1, 0, 0);
        net.tick(1);
        check.known("in domain 1", net, 0, 1, 1, 1);
        check.due("15: in domain 1", net.port(0, 1), TimeNet.FOLLOWS);
        check.due("16: in domain 1", net.bestByGraph(0), 1);
    }

    private void notThroughTheOtherDomain() {
        TimeNet net = new TimeNet();
        net.add(0, 1, 0, 0);
        net.add(1, 1, 0, 0);
        net.add(0, 2, 0, 0);
        net.link(0, 1, 0, 0);
        net.link(1, 2, 0, 0);
        net.tick(3);
        check.known("through the other domain", net, 2, 2, 0, NONE);
        check.due("16: through the other domain", net.bestByGraph(2), 2);
        check.due("17: through the other domain", net.stepsByGraph(2), 0);
    }

    // ---- cuts

    private void cutFromTheParent() {
        for (int turned = 0; turned < 2; turned++) {
            TimeNet net = Nets.line(1, 2, 3);
            net.tick(2);
            net.cut(turned, 1 - turned);
            check.known("7: its parent is cut off", net, 1, 1, 0, NONE);
            check.known("7: its child knows what it knew", net, 2, 0, 2, 1);
            check.known("7: the parent knows what it knew", net, 0, 0, 0, NONE);
            net.tick(1);
            check.known("7: its child's clock is not heard", net, 1, 1, 0, NONE);
            check.known("7: the child hears the parent", net, 2, 1, 1, 1);
        }
    }

    private void cutFromAnother() {
        TimeNet net = Nets.line(1, 2, 3);
        net.link(0, 2, 0, 0);
        net.tick(2);
        net.cut(1, 2);
        check.known("7: no parent over it", net, 1, 0, 1, 0);
        check.known("7: no parent over it", net, 2, 0, 1, 0);
    }

    private void cutByTheClockOfNow() {
        TimeNet net = Nets.line(0, 9, 5);
        net.tick(1);
        net.setClock(1, 5, 0);
        net.cut(0, 1);
        net.setClock(1, 9, 9);
        net.tick(1);
        check.known("7: by its class of then", net, 2, 1, 1, 1);
        TimeNet other = Nets.line(0, 5, 5);
        other.tick(1);
        other.setClock(1, 5, 1);
        other.cut(0, 1);
        other.setClock(1, 0, 0);
        other.tick(1);
        check.known("7: by its variance of then", other, 2, 2, 0, NONE);
    }

    /** The clock of a node that has no parent over the link is announced as it was known, not as it is at the cut. */
    private void cutLeavesTheOthersClock() {
        TimeNet net = Nets.line(0, 5, 5);
        net.link(0, 2, 0, 0);
        net.setClock(0, 9, 0);
        net.cut(0, 1);
        net.tick(1);
        check.known("7: known as it was when it was added", net, 2, 0, 1, 0);
    }

    // ---- ports

    private void portToItselfAndToNone() {
        TimeNet net = Nets.line(1, 2, 3);
        net.tick(2);
        for (int node = 0; node < 3; node++) {
            check.due("15: the same", net.port(node, node), TimeNet.NO_PORT);
        }
        check.due("15: not linked", net.port(0, 2), TimeNet.NO_PORT);
        check.due("15: not linked", net.port(2, 0), TimeNet.NO_PORT);
        net.cut(0, 1);
        check.due("15: no longer linked", net.port(1, 0), TimeNet.NO_PORT);
        check.due("15: no longer linked", net.port(0, 1), TimeNet.NO_PORT);
    }

    private void portToParentAndChild() {
        TimeNet up = Nets.line(1, 2);
        TimeNet down = Nets.line(2, 1);
        up.tick(1);
        down.tick(1);
        check.due("15: its parent is the lower", up.port(1, 0), TimeNet.FOLLOWS);
        check.due("15: its child is the higher", up.port(0, 1), TimeNet.LEADS);
        check.due("15: its parent is the higher", down.port(0, 1), TimeNet.FOLLOWS);
        check.due("15: its child is the lower", down.port(1, 0), TimeNet.LEADS);
    }

    private void portOfFewerAndMoreSteps() {
        TimeNet net = Nets.nodes(5, 0, 5, 5);
        net.link(1, 2, 0, 0);
        net.link(1, 3, 0, 0);
        net.link(2, 0, 0, 0);
        net.link(3, 0, 0, 0);
        net.tick(2);
        check.due("13: two steps", net.steps(0), 2);
        check.due("13: one step", net.steps(3), 1);
        check.due("14: neither is the parent", net.parent(0), 2);
        check.due("15: fewer steps, the higher number", net.port(3, 0), TimeNet.LEADS);
        check.due("15: more steps, the lower number", net.port(0, 3), TimeNet.RESTS);
    }

    private void portOfAsManySteps() {
        TimeNet net = Nets.nodes(1, 5, 5);
        net.link(1, 2, 0, 0);
        check.due("15: 0 steps each, the lower number", net.port(1, 2), TimeNet.LEADS);
        check.due("15: 0 steps each, the higher number", net.port(2, 1), TimeNet.RESTS);
        net.link(0, 1, 0, 0);
        net.link(0, 2, 0, 0);
        net.tick(3);
        check.due("15: 1 step each, the lower number", net.port(1, 2), TimeNet.LEADS);
        check.due("15: 1 step each, the higher number", net.port(2, 1), TimeNet.RESTS);
    }

    private void portAfterACut() {
        TimeNet net = Nets.line(2, 1);
        net.tick(2);
        check.due("15: to its child", net.port(1, 0), TimeNet.LEADS);
        net.cut(0, 1);
        net.link(0, 1, 0, 0);
        check.due("15: no longer its child, as many steps, the higher number", net.port(1, 0), TimeNet.RESTS);
        check.due("15: no longer its parent, as many steps, the lower number", net.port(0, 1), TimeNet.LEADS);
    }

    /** A parent may know as many steps as its child, which hears a tick later, and have the higher number: it leads. */
    private void portToAChildOfAsManySteps() {
        TimeNet net = Nets.line(9, 5, 8);
        net.tick(1);
        check.known("a child of node 1", net, 0, 1, 1, 1);
        net.add(0, 3, 0, 0);
        net.add(0, 2, 0, 0);
        net.link(2, 3, 0, 0);
        net.link(3, 4, 0, 0);
        net.tick(3);
        check.known("a parent over three steps", net, 1, 4, 3, 2);
        check.known("its child, which hears a tick later", net, 0, 3, 3, 1);
        check.due("15: still it follows", net.port(0, 1), TimeNet.FOLLOWS);
        check.due("15: still it is led", net.port(1, 0), TimeNet.LEADS);
    }

    /** Node 1 takes from node 2 what that no longer knows, while node 2 takes from node 1: both are parents. */
    private void portOfTwoThatAreEachOthersParent() {
        TimeNet net = Nets.nodes(0, 9, 9, 1);
        net.link(0, 1, 0, 0);
        net.link(2, 3, 0, 0);
        net.tick(1);
        check.known("on the one side", net, 1, 0, 1, 0);
        check.known("on the other side", net, 2, 3, 1, 3);
        net.setClock(0, 200, 0);
        net.tick(1);
        check.known("as it was", net, 1, 0, 1, 0);
        net.link(1, 2, 0, 0);
        net.tick(1);
        check.known("a parent", net, 1, 3, 2, 2);
        check.known("of its parent", net, 2, 0, 2, 1);
        check.due("15: both follow", net.port(1, 2), TimeNet.FOLLOWS);
        check.due("15: both follow", net.port(2, 1), TimeNet.FOLLOWS);
        check.due("7: cut between them", net.cut(1, 2), 2);
        check.known("7: both know themselves", net, 1, 1, 0, NONE);
        check.known("7: both know themselves", net, 2, 2, 0, NONE);
    }

    // ---- by the graph

    private void byGraphOverNineSteps() {
        TimeNet net = Nets.ten();
        for (int node = 0; node < 10; node++) {
            check.due("16: of ten nodes, " + node, net.bestByGraph(node), 0);
            check.due("17: of ten nodes, " + node, net.stepsByGraph(node), node);
        }
        net.setClock(9, 0, 0);
        check.due("16: at the other end", net.bestByGraph(0), 9);
        check.due("17: at the other end", net.stepsByGraph(0), 9);
        net.link(0, 9, 0, 0);
        check.due("17: over the fewest links", net.stepsByGraph(0), 1);
        check.due("17: round the other way", net.stepsByGraph(4), 5);
        net.cut(4, 5);
        check.due("17: the long way round", net.stepsByGraph(4), 5);
        check.due("17: the short way", net.stepsByGraph(5), 4);
        net.cut(0, 9);
        check.due("16: of the part alone", net.bestByGraph(4), 0);
        check.due("17: of the part alone", net.stepsByGraph(4), 4);
    }

    private void byGraphIsWithoutTicks() {
        TimeNet net = Nets.line(1, 2, 3);
        net.tick(2);
        net.cut(0, 1);
        check.due("16: neighbours as they are now", net.bestByGraph(2), 1);
        check.due("17: neighbours as they are now", net.stepsByGraph(2), 1);
        net.setClock(2, 0, 0);
        check.due("16: clocks as they are now", net.bestByGraph(1), 2);
        check.due("17: of itself", net.stepsByGraph(2), 0);
    }

    // ---- settled

    private void settledForEachNode() {
        TimeNet first = Nets.line(9, 1);
        check.due("18: the first does not know", first.isSettled(), false);
        first.tick(1);
        check.due("18: the first knows", first.isSettled(), true);
        TimeNet last = Nets.line(1, 9);
        check.due("18: the last does not know", last.isSettled(), false);
        last.tick(1);
        check.due("18: the last knows", last.isSettled(), true);
        last.add(1, 9, 0, 0);
        last.add(1, 1, 0, 0);
        last.link(2, 3, 0, 0);
        check.due("18: one of the other domain does not know", last.isSettled(), false);
    }

    private void settledByStepsToo() {
        TimeNet net = Nets.line(1, 2, 3);
        net.tick(2);
        net.link(0, 2, 0, 0);
        check.known("18: the best is known", net, 2, 0, 2, 1);
        check.due("18: but over more steps", net.isSettled(), false);
        net.tick(1);
        check.due("18: over the fewest", net.isSettled(), true);
    }

    private void settledByTheBestToo() {
        TimeNet net = Nets.line(1, 2, 3);
        net.link(0, 2, 0, 0);
        net.tick(1);
        check.due("18: one step to node 0", net.isSettled(), true);
        net.setClock(1, 1, 0);
        check.due("18: equals of a higher number count nothing", net.isSettled(), true);
        net.setClock(1, 0, 0);
        check.due("18: one step to node 1 is due", net.isSettled(), false);
        check.due("17: as many steps", net.stepsByGraph(2), net.steps(2));
    }

    private void clocks() {
        noNodes();
        oneNode();
        addedLater();
        addedWithTheClockItKnows();
        lowerClassComesFirst();
        thenTheLowerVariance();
        thenTheLowerNode();
        theLowerNodeComesBeforeFewerSteps();
        thenFewerSteps();
        thenTheLowerNeighbour();
        itsOwnComesFirst();
    }

    private void announcements() {
        allAtOnce();
        ticksAtOnce();
        itselfAsItIsNow();
        aWorseClockIsKnownALittleLonger();
        nothingIsRemembered();
        upToNineSteps();
        eightStepsAreAnnounced();
        notFromItsChild();
        fromTheChildOfItsChild();
        overDomainsNothingIsCarried();
        domain1IsAsDomain0();
        notThroughTheOtherDomain();
    }

    private void cutsAndPorts() {
        cutFromTheParent();
        cutFromAnother();
        cutByTheClockOfNow();
        cutLeavesTheOthersClock();
        portToItselfAndToNone();
        portToParentAndChild();
        portOfFewerAndMoreSteps();
        portOfAsManySteps();
        portAfterACut();
        portToAChildOfAsManySteps();
        portOfTwoThatAreEachOthersParent();
    }

    public static void main(String[] args) {
        EdgesOfKnowledgeTest test = new EdgesOfKnowledgeTest();
        test.clocks();
        test.announcements();
        test.cutsAndPorts();
        test.byGraphOverNineSteps();
        test.byGraphIsWithoutTicks();
        test.settledForEachNode();
        test.settledByStepsToo();
        test.settledByTheBestToo();
        test.check.end();
    }
}
