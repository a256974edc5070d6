/** Examples for the promises about nodes, links and time; the answers are worked out from the document by hand. */
public final class PromisesTest {
    private static final Class<IndexOutOfBoundsException> NO_NODE = IndexOutOfBoundsException.class;
    private static final Class<IllegalArgumentException> RANGE = IllegalArgumentException.class;
    private static final Class<IllegalStateException> STATE = IllegalStateException.class;
    private static final int[] NO_NODES = {-1, 2, 10, Integer.MIN_VALUE, Integer.MAX_VALUE};

    private final Check check = new Check("PromisesTest");

    private static TimeNet pair() {
        return Nets.nodes(1, 2);
    }

    private void promise1New() {
        TimeNet net = new TimeNet();
        check.due("1: nodes of a new net", net.nodes(), 0);
        check.due("1: links of a new net", net.links(), 0);
        check.due("1: a new net is settled", net.isSettled(), true);
        check.due("1: spread of a new net", net.spread(0) + net.spread(1), 0);
        check.thrown("1: best(0) of a new net", NO_NODE, () -> net.best(0));
        check.due("1: the first tick", net.tick(1), 1);
        check.due("1: another net has nodes of its own", pair().nodes() + new TimeNet().nodes(), 2);
    }

    private void promise2Add() {
        TimeNet net = new TimeNet();
        check.due("2: first", net.add(0, 0, 0, -100), 0);
        check.due("2: second", net.add(1, 255, 1000, 100), 1);
        check.due("2: knows itself", net.best(1), 1);
        check.due("2: at no step", net.steps(1), 0);
        check.due("2: without parent", net.parent(1), -1);
        check.due("2: offset at first", net.offset(1), 0);
        check.due("2: rate at first", net.rate(1), 0);
        check.thrown("2: domain -1", RANGE, () -> net.add(-1, 0, 0, 0));
        check.thrown("2: domain 2", RANGE, () -> net.add(2, 0, 0, 0));
        check.thrown("2: grade -1", RANGE, () -> net.add(0, -1, 0, 0));
        check.thrown("2: grade 256", RANGE, () -> net.add(0, 256, 0, 0));
        check.thrown("2: variance -1", RANGE, () -> net.add(0, 0, -1, 0));
        check.thrown("2: variance 1001", RANGE, () -> net.add(0, 0, 1001, 0));
        check.thrown("2: drift -101", RANGE, () -> net.add(0, 0, 0, -101));
        check.thrown("2: drift 101", RANGE, () -> net.add(0, 0, 0, 101));
        net.tick(1);
        check.due("2: drift -100", net.offset(0), -100);
        check.due("2: drift 100", net.offset(1), 100);
        for (int node = 2; node < 10; node++) {
            check.due("2: number", net.add(0, 5, 5, 5), node);
        }
        check.thrown("2: an eleventh", STATE, () -> net.add(0, 0, 0, 0));
        check.thrown("2: an eleventh out of range", RANGE, () -> net.add(2, 0, 0, 0));
    }

    private void promise3SetClock() {
        TimeNet net = pair();
        net.link(0, 1, 0, 0);
        net.tick(1);
        check.due("3: class before", net.setClock(1, 0, 1000), 2);
        check.due("3: it is not known yet", net.best(1), 0);
        check.due("3: it stands in the graph at once", net.bestByGraph(0), 1);
        net.tick(1);
        check.due("3: the node itself knows after one announcement", net.best(1), 1);
        check.due("3: the neighbour does not", net.best(0), 0);
        net.tick(1);
        check.due("3: the neighbour knows after two", net.best(0), 1);
        check.due("3: class before, once more", net.setClock(1, 255, 0), 0);
        net.setClock(0, 255, 1);
        check.due("3: the variance counts", net.bestByGraph(0), 1);
        for (int node : NO_NODES) {
            check.thrown("3: no node " + node, NO_NODE, () -> net.setClock(node, 256, -1));
        }
        check.thrown("3: grade -1", RANGE, () -> net.setClock(0, -1, 0));
        check.thrown("3: grade 256", RANGE, () -> net.setClock(0, 256, 0));
        check.thrown("3: variance -1", RANGE, () -> net.setClock(0, 0, -1));
        check.thrown("3: variance 1001", RANGE, () -> net.setClock(0, 0, 1001));
    }

    private void promise4SetDrift() {
        TimeNet net = pair();
        check.due("4: drift before", net.setDrift(1, -100), 0);
        check.due("4: drift before", net.setDrift(1, 100), -100);
        check.due("4: offset is as it was", net.offset(1), 0);
        net.tick(3);
        check.due("4: grows by the drift", net.offset(1), 300);
        check.due("4: the rate is another thing", net.rate(1), 0);
        for (int node : NO_NODES) {
            check.thrown("4: no node " + node, NO_NODE, () -> net.setDrift(node, 101));
        }
        check.thrown("4: drift -101", RANGE, () -> net.setDrift(1, -101));
        check.thrown("4: drift 101", RANGE, () -> net.setDrift(1, 101));
        check.due("4: a refused drift changes nothing", net.setDrift(1, 0), 100);
    }

    private void promise5SetOffset() {
        TimeNet net = pair();
        check.due("5: offset before", net.setOffset(1, 1000000), 0);
        check.due("5: offset before", net.setOffset(1, -1000000), 1000000);
        check.due("5: offset now", net.offset(1), -1000000);
        net.setDrift(1, -100);
        net.tick(1);
        check.due("5: it may pass the range by ticks", net.setOffset(1, 7), -1000100);
        for (int node : NO_NODES) {
            check.thrown("5: no node " + node, NO_NODE, () -> net.setOffset(node, 1000001));
        }
        check.thrown("5: offset -1000001", RANGE, () -> net.setOffset(1, -1000001));
        check.thrown("5: offset 1000001", RANGE, () -> net.setOffset(1, 1000001));
    }

    private void promise6Link() {
        TimeNet net = pair();
        for (int node : NO_NODES) {
            check.thrown("6: no node " + node, NO_NODE, () -> net.link(node, 0, -1, 0));
            check.thrown("6: no other node " + node, NO_NODE, () -> net.link(0, node, -1, 0));
            check.thrown("6: no such node twice " + node, NO_NODE, () -> net.link(node, node, 0, 0));
        }
        check.thrown("6: both the same", RANGE, () -> net.link(1, 1, 0, 0));
        check.thrown("6: there -1", RANGE, () -> net.link(0, 1, -1, 0));
        check.thrown("6: there 100001", RANGE, () -> net.link(0, 1, 100001, 0));
        check.thrown("6: back -1", RANGE, () -> net.link(0, 1, 0, -1));
        check.thrown("6: back 100001", RANGE, () -> net.link(0, 1, 0, 100001));
        check.due("6: the first", net.link(1, 0, 0, 100000), 1);
        check.thrown("6: linked", STATE, () -> net.link(1, 0, 0, 0));
        check.thrown("6: linked the other way", STATE, () -> net.link(0, 1, 0, 0));
        check.thrown("6: linked and out of range", RANGE, () -> net.link(0, 1, 0, 100001));
        net.tick(1);
        check.due("6: the delays, of there and back, are those of the first link", net.offset(1), -25000);
        net.add(1, 0, 0, 0);
        check.due("6: over domains", net.link(0, 2, 100000, 0), 2);
        check.due("6: over domains nothing is carried", net.bestByGraph(0), 0);
        check.thrown("6: over domains linked", STATE, () -> net.link(2, 0, 0, 0));
    }

    private void promise7Cut() {
        TimeNet net = pair();
        net.add(0, 3, 0, 0);
        net.link(0, 1, 6, 0);
        net.link(1, 2, 0, 0);
        net.tell(0, 1, 6);
        net.tick(2);
        for (int node : new int[] {-1, 3, 10, Integer.MIN_VALUE, Integer.MAX_VALUE}) {
            check.thrown("7: no node " + node, NO_NODE, () -> net.cut(node, 0));
            check.thrown("7: no other node " + node, NO_NODE, () -> net.cut(0, node));
        }
        check.thrown("7: not linked", STATE, () -> net.cut(0, 2));
        check.thrown("7: the same", STATE, () -> net.cut(1, 1));
        net.setClock(1, 1, 1);
        net.setClock(2, 1, 0);
        check.due("7: links then", net.cut(1, 0), 1);
        check.due("7: the child knows itself", net.best(1), 1);
        check.due("7: at no step", net.steps(1), 0);
        check.due("7: without parent", net.parent(1), -1);
        check.due("7: the child of the child knows the old one", net.best(2), 0);
        check.due("7: and its parent", net.parent(2), 1);
        check.thrown("7: cut already", STATE, () -> net.cut(0, 1));
        net.tick(1);
        check.due("7: by its class of now, not that of the child's child", net.best(1), 1);
        check.due("7: known as of now", net.best(2), 2);
        check.due("7: linked again", net.link(0, 1, 6, 0), 2);
        check.due("7: with nothing told", net.tell(0, 1, 1), 0);
        check.due("7: a link over which there is no parent", net.cut(0, 1), 1);
        net.tick(1);
        check.due("7: a parent stays", net.parent(1), 2);
        net.link(0, 1, 0, 0);
        net.cut(0, 1);
        check.due("7: when another link is cut", net.parent(1), 2);
        check.due("7: with its clock", net.best(1), 2);
    }

    /** The clock that a node knows after a cut is told on as it was at the cut, not as it was when it was added. */
    private void promise7CutKnowsTheClockOfNow() {
        TimeNet net = new TimeNet();
        net.add(0, 0, 0, 0);
        net.add(0, 9, 9, 0);
        net.add(0, 5, 0, 0);
        net.link(0, 1, 0, 0);
        net.link(1, 2, 0, 0);
        net.tick(1);
        net.setClock(1, 4, 0);
        net.cut(1, 0);
        net.setClock(1, 200, 0);
        net.tick(1);
        check.due("7: what was known at the cut is announced", net.best(2), 1);
        net.setClock(2, 4, 1);
        net.tick(1);
        check.due("7: and goes then", net.best(2), 2);
    }

    private void promise8Tell() {
        TimeNet net = pair();
        net.link(1, 0, 7, 2);
        for (int node : NO_NODES) {
            check.thrown("8: no node " + node, NO_NODE, () -> net.tell(node, 0, 100001));
            check.thrown("8: no other node " + node, NO_NODE, () -> net.tell(0, node, 100001));
        }
        check.thrown("8: -100001", RANGE, () -> net.tell(0, 1, -100001));
        check.thrown("8: 100001", RANGE, () -> net.tell(0, 1, 100001));
        check.thrown("8: out of range for the same", RANGE, () -> net.tell(0, 0, 100001));
        check.thrown("8: the same", STATE, () -> net.tell(0, 0, 0));
        check.due("8: nothing is told at first", net.tell(1, 0, -100000), 0);
        check.due("8: the other sign the other way", net.tell(0, 1, 100000), 100000);
        check.due("8: the same sign the same way", net.tell(0, 1, -5), 100000);
        check.due("8: the other sign, once more", net.tell(1, 0, 5), 5);
        net.tick(10);
        check.due("8: told, the delays spoil nothing", net.offset(1), 0);
        net.tell(1, 0, -5);
        net.tick(1);
        // From node 0 to node 1 less back is -5, told is 5: the error is -5, and half of it is -2.
        check.due("8: told wrong, they spoil it twice", net.offset(1), 2);
        check.due("8: a 16th of 5 is 0", net.rate(1), 0);
        net.cut(0, 1);
        check.thrown("8: not linked", STATE, () -> net.tell(0, 1, 0));
        check.thrown("8: not linked and out of range", RANGE, () -> net.tell(0, 1, 100001));
    }

    private void promise9Tick() {
        TimeNet net = pair();
        check.thrown("9: 0", RANGE, () -> net.tick(0));
        check.thrown("9: 51", RANGE, () -> net.tick(51));
        check.thrown("9: -1", RANGE, () -> net.tick(-1));
        check.thrown("9: the least number", RANGE, () -> net.tick(Integer.MIN_VALUE));
        check.due("9: all ticks", net.tick(1), 1);
        check.due("9: all ticks", net.tick(50), 51);
        check.thrown("9: 51", RANGE, () -> net.tick(51));
        check.due("9: all ticks", net.tick(2), 53);
    }

    /** The offset grows first, then clocks are announced, then the child is steered by the link's error. */
    private void promise9Servo() {
        TimeNet net = pair();
        net.link(0, 1, 3, 0);
        net.setOffset(1, 100);
        net.setDrift(0, 4);
        net.tick(1);
        // 100 - 4 + 1 = 97: 48 of the offset and 6 of the rate.
        check.due("9: offset", net.offset(1), 52);
        check.due("9: rate", net.rate(1), -6);
        check.due("9: the parent is not steered", net.offset(0), 4);
        net.tick(1);
        // 46 - 8 + 1 = 39: 19 and 2.
        check.due("9: offset, the rate at work", net.offset(1), 27);
        check.due("9: rate, the second time", net.rate(1), -8);
        net.setOffset(1, -100);
        net.tick(1);
        // -108 - 12 + 1 = -119: -59 and -7, toward 0.
        check.due("9: offset from below", net.offset(1), -49);
        check.due("9: rate from below", net.rate(1), -1);
    }

    /** Of three in a line the middle one, nearer to the best clock, is steered first, whatever its number. */
    private void promise9Order() {
        TimeNet net = new TimeNet();
        net.add(0, 3, 0, 0);
        net.add(0, 2, 0, 0);
        net.add(0, 1, 0, 0);
        net.link(0, 1, 0, 0);
        net.link(1, 2, 0, 0);
        net.tick(2);
        check.due("9: a parent at one step", net.steps(1), 1);
        check.due("9: a child at two steps", net.steps(0), 2);
        net.setOffset(1, 64);
        net.tick(1);
        // Node 1 falls to 32 first; node 0 measures -32 then.
        check.due("9: the parent", net.offset(1), 32);
        check.due("9: measures what its parent is then", net.offset(0), 16);
        check.due("9: and so its rate", net.rate(0), 2);
    }

    private void promise9RoundsTowardZero() {
        TimeNet net = pair();
        net.link(0, 1, 0, 3);
        net.tick(1);
        // The error is -3 / 2 = -1, and half of -1 is 0.
        check.due("9: the error -1.5 is -1, and its half is 0", net.offset(1), 0);
        net.setOffset(1, -30);
        net.tick(1);
        // -31: -15 and -1.
        check.due("9: half of -31", net.offset(1), -15);
        check.due("9: a 16th of -31", net.rate(1), 1);
        net.setOffset(1, 31);
        net.tick(1);
        // 31 + 1 - 1 = 31: 15 and 1.
        check.due("9: half of 31", net.offset(1), 17);
        check.due("9: a 16th of 31", net.rate(1), 0);
        TimeNet told = pair();
        told.link(0, 1, 1, 0);
        told.tell(0, 1, -1);
        told.setOffset(1, 1);
        told.tick(1);
        // The error is (1 + 1) / 2 = 1, rounded once; 2 is measured.
        check.due("9: the told difference is taken off ahead of the rounding", told.offset(1), 0);
    }

    private void promises10And11Counts() {
        TimeNet net = new TimeNet();
        for (int node = 0; node < 10; node++) {
            net.add(node % 2, 0, 0, 0);
            check.due("10: nodes", net.nodes(), node + 1);
        }
        int links = 0;
        for (int one = 0; one < 10; one++) {
            for (int other = one + 1; other < 10; other++) {
                links++;
                check.due("11: links then", net.link(other, one, 0, 0), links);
                check.due("11: links", net.links(), links);
            }
        }
        check.due("11: all are linked", links, 45);
        check.due("11: one is cut", net.cut(9, 3), 44);
        check.due("11: one is cut", net.links(), 44);
        check.due("10: nodes stay", net.nodes(), 10);
    }

    private void promises19And20Time() {
        TimeNet net = pair();
        net.link(0, 1, 0, 0);
        net.setOffset(1, -160);
        check.due("19: an offset", net.offset(1), -160);
        net.tick(1);
        check.due("19: an offset after a tick", net.offset(1), -80);
        check.due("20: a rate after a tick", net.rate(1), 10);
        check.due("20: the rate of the parent", net.rate(0), 0);
        net.cut(0, 1);
        net.tick(2);
        check.due("20: without a parent the rate stays", net.rate(1), 10);
        check.due("19: and goes on", net.offset(1), -60);
        net.setOffset(1, 0);
        check.due("20: an offset set leaves the rate", net.rate(1), 10);
        for (int node : NO_NODES) {
            check.thrown("19: no node " + node, NO_NODE, () -> net.offset(node));
            check.thrown("20: no node " + node, NO_NODE, () -> net.rate(node));
        }
    }

    private void promise20LearnsDrift() {
        TimeNet net = pair();
        net.link(0, 1, 5, 5);
        net.setDrift(1, 100);
        for (int n = 0; n < 4; n++) {
            net.tick(50);
        }
        // It rests where a tick measures under 16: the rate answers all but a little of the drift.
        check.due("20: the drift is learned", net.rate(1) <= -92 && net.rate(1) >= -100, true);
        check.due("20: the offset is near", Math.abs(net.offset(1)) < 16, true);
    }

    private void promise21Spread() {
        TimeNet net = new TimeNet();
        net.add(1, 0, 0, 0);
        net.setOffset(0, 500);
        check.due("21: of one node", net.spread(1), 0);
        check.due("21: of none", net.spread(0), 0);
        net.add(0, 0, 0, 0);
        net.setOffset(1, -1000000);
        check.due("21: of one node in either domain", net.spread(0) + net.spread(1), 0);
        net.add(0, 0, 0, 0);
        net.setOffset(2, 1000000);
        net.add(0, 0, 0, 0);
        check.due("21: the greatest", net.spread(0), 2000000);
        check.due("21: of one domain alone", net.spread(1), 0);
        net.add(1, 0, 0, 0);
        net.setOffset(4, 430);
        check.due("21: without links too", net.spread(1), 70);
        net.setOffset(0, -500);
        net.setOffset(4, -430);
        check.due("21: both below 0", net.spread(1), 70);
        check.thrown("21: domain -1", RANGE, () -> net.spread(-1));
        check.thrown("21: domain 2", RANGE, () -> net.spread(2));
    }

    public static void main(String[] args) {
        PromisesTest test = new PromisesTest();
        test.promise1New();
        test.promise2Add();
        test.promise3SetClock();
        test.promise4SetDrift();
        test.promise5SetOffset();
        test.promise6Link();
        test.promise7Cut();
        test.promise7CutKnowsTheClockOfNow();
        test.promise8Tell();
        test.promise9Tick();
        test.promise9Servo();
        test.promise9Order();
        test.promise9RoundsTowardZero();
        test.promises10And11Counts();
        test.promises19And20Time();
        test.promise20LearnsDrift();
        test.promise21Spread();
        test.check.end();
    }
}
