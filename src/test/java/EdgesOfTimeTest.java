/** The boundary cases of time: the order within a tick and of steering, the link's error, the roundings, the spread. */
public final class EdgesOfTimeTest {
    private final Check check = new Check("EdgesOfTimeTest");

    /** As the document says it: rounded toward 0. */
    private static long towardZero(long value, long by) {
        return value < 0 ? -(-value / by) : value / by;
    }

    // ---- the parts of a tick

    private void atFirst() {
        TimeNet net = new TimeNet();
        net.add(0, 0, 0, 100);
        check.due("19: 0 at first, whatever the drift", net.offset(0), 0);
        check.due("20: 0 at first, whatever the drift", net.rate(0), 0);
        net.tick(1);
        check.due("19: the drift of a tick", net.offset(0), 100);
        check.due("20: of one node", net.rate(0), 0);
        net.add(0, 0, 0, 100);
        check.due("19: 0 at first, of one that is added later", net.offset(1), 0);
        check.due("20: 0 at first, of one that is added later", net.rate(1), 0);
    }

    private void withoutParentNoneIsSteered() {
        TimeNet net = Nets.nodes(1, 2);
        net.setOffset(0, 1000);
        net.setOffset(1, -1000);
        net.tick(50);
        check.due("9: without a link", net.offset(0), 1000);
        check.due("9: without a link", net.offset(1), -1000);
        check.due("20: without a link", net.rate(0), 0);
        net.link(0, 1, 0, 0);
        net.tick(1);
        check.due("9: the best is not steered", net.offset(0), 1000);
        check.due("20: the best is not steered", net.rate(0), 0);
        check.due("9: its child is, in the tick in which it hears of it", net.offset(1), 0);
        check.due("20: its child learns", net.rate(1), 125);
        net.cut(0, 1);
        net.tick(2);
        check.due("9: the rate works on without a parent", net.offset(1), 250);
        check.due("20: and stays", net.rate(1), 125);
    }

    private void offsetsGrowFirst() {
        TimeNet net = Nets.line(1, 2);
        net.setDrift(0, -40);
        net.setDrift(1, 60);
        net.tick(1);
        // 60 less -40 is measured: 50 of the offset, 6 of the rate.
        check.due("9: the growth is measured", net.offset(1), 10);
        check.due("9: the growth is measured", net.rate(1), -6);
        check.due("9: the parent grew too", net.offset(0), -40);
        net.tick(1);
        // 10 + 60 - 6 = 64 less -80 is 144: 72 and 9.
        check.due("9: the rate of the tick before is at work", net.offset(1), -8);
        check.due("9: the rate falls on", net.rate(1), -15);
    }

    private void fiftyAtOnceAreFiftyTimesOne() {
        TimeNet once = Nets.built();
        TimeNet often = Nets.built();
        once.tick(50);
        for (int ticks = 0; ticks < 50; ticks++) {
            often.tick(1);
        }
        check.judge("9: fifty ticks", State.of(once), State.of(often));
    }

    // ---- who is steered first

    /** Nodes 2, 1 and 0 are at one, two and three steps: each measures what its parent has become. */
    private void fewerStepsFirst() {
        TimeNet net = Nets.line(9, 8, 7, 0);
        net.tick(3);
        check.due("13: three steps", net.steps(0), 3);
        net.setOffset(2, 128);
        net.tick(1);
        check.due("9: one step", net.offset(2), 64);
        check.due("9: two steps, less 64", net.offset(1), 32);
        check.due("9: three steps, less 32", net.offset(0), 16);
        check.due("9: so the rate, of three steps", net.rate(0), 2);
    }

    private void nineStepsTooAndLast() {
        TimeNet net = Nets.line(9, 9, 9, 9, 9, 9, 9, 9, 9, 0);
        net.tick(9);
        net.setOffset(8, 1 << 18);
        net.tick(1);
        for (int steps = 1; steps <= 9; steps++) {
            check.due("13: steps", net.steps(9 - steps), steps);
            check.due("9: of " + steps + " steps", net.offset(9 - steps), 1 << 18 - steps);
        }
    }

    /**
     * In the fourth tick node 0 hears, from node 1, the clock that this knew ahead, and both know three steps: the
     * child has the lower number and is steered ahead of its parent.
     */
    private void ofSeveralTheLowerNumberFirst() {
        TimeNet net = Nets.line(9, 5, 8);
        net.tick(1);
        net.add(0, 3, 0, 0);
        net.add(0, 2, 0, 0);
        net.link(2, 3, 0, 0);
        net.link(3, 4, 0, 0);
        net.tick(2);
        net.setOffset(1, 64);
        net.tick(1);
        check.known("the child", net, 0, 3, 3, 1);
        check.known("the parent", net, 1, 4, 3, 2);
        check.due("9: the child measures what its parent was", net.offset(0), 32);
        check.due("9: then the parent is steered", net.offset(1), 32);
    }

    // ---- the error of a link

    /** What the child makes of 1000 and of 1001 tells its error, as half of what is measured is taken off. */
    private void error(String what, boolean isParentLower, int there, int back, int told) {
        for (int offset = 1000; offset < 1002; offset++) {
            TimeNet net = isParentLower ? Nets.nodes(1, 2) : Nets.nodes(2, 1);
            int parent = isParentLower ? 0 : 1;
            int child = 1 - parent;
            net.link(parent, child, there, back);
            net.tell(parent, child, told);
            net.setOffset(child, offset);
            net.tick(1);
            long measured = offset + towardZero((long) there - back - told, 2);
            String row = what + " " + there + ", " + back + ", " + told;
            check.due(row + ": offset", net.offset(child), offset - towardZero(measured, 2));
            check.due(row + ": rate", net.rate(child), -towardZero(measured, 16));
        }
    }

    private void errorOf(String what, int there, int back, int told) {
        error("9: " + what + ", the parent is the lower", true, there, back, told);
        error("9: " + what + ", the parent is the higher", false, there, back, told);
    }

    private void errorRoundsTowardZero() {
        for (int difference = 0; difference < 6; difference++) {
            errorOf("the delay from the parent is longer", 20 + difference, 20, 0);
            errorOf("the delay back is longer", 20, 20 + difference, 0);
        }
    }

    /** Rounded once, after all is added: half of 3 less half of 1 would be another answer. */
    private void errorLessWhatIsTold() {
        for (int told = -4; told < 5; told++) {
            errorOf("told", 3, 0, told);
            errorOf("told", 0, 3, told);
            errorOf("told, of equal delays", 7, 7, told);
        }
    }

    private void errorAtItsGreatest() {
        errorOf("the greatest error", 100000, 0, -100000);
        errorOf("the least error", 0, 100000, 100000);
        errorOf("told in full", 100000, 0, 100000);
        errorOf("told in full", 0, 100000, -100000);
        TimeNet net = Nets.nodes(1, 2);
        net.link(0, 1, 100000, 0);
        net.tell(0, 1, -100000);
        net.tick(1);
        check.due("9: half of an error of 100000", net.offset(1), -50000);
        check.due("9: a 16th of an error of 100000", net.rate(1), -6250);
    }

    /** A link is laid and told from either end: what counts is the direction, not who is named first. */
    private void eitherEndMayBeNamedFirst() {
        for (int way = 0; way < 4; way++) {
            TimeNet net = Nets.nodes(1, 2);
            if (way % 2 == 0) {
                net.link(0, 1, 90, 10);
            } else {
                net.link(1, 0, 10, 90);
            }
            if (way < 2) {
                net.tell(0, 1, 20);
            } else {
                net.tell(1, 0, -20);
            }
            check.due("8: told from the lower", net.tell(0, 1, 20), 20);
            check.due("8: told from the higher", net.tell(1, 0, -20), -20);
            net.tick(1);
            // 90 - 10 - 20 = 60; 30 is the error and 15 the half of it.
            check.due("9: named either way", net.offset(1), -15);
        }
    }

    private void toldIsZeroAtFirst() {
        TimeNet net = Nets.nodes(1, 2);
        net.link(0, 1, 8, 0);
        check.due("8: before, at first", net.tell(1, 0, 5), 0);
        net.cut(0, 1);
        net.link(0, 1, 8, 0);
        net.tick(1);
        check.due("9: nothing is told of a link that is laid again", net.offset(1), -2);
        check.due("8: before, of a link that is laid again", net.tell(1, 0, 0), 0);
    }

    private void delaysOfALinkThatIsLaidAgain() {
        TimeNet net = Nets.nodes(1, 2);
        net.link(0, 1, 80, 0);
        net.cut(1, 0);
        net.link(1, 0, 80, 0);
        net.tick(1);
        check.due("9: the delays of the new link", net.offset(1), 20);
    }

    // ---- the roundings of steering

    private void steeringRoundsTowardZero() {
        for (int measured = 0; measured < 50; measured++) {
            for (int sign = -1; sign < 2; sign += 2) {
                TimeNet net = Nets.line(1, 2);
                net.setOffset(1, sign * measured);
                net.tick(1);
                check.due("9: half of " + sign * measured, net.offset(1), sign * (measured - measured / 2));
                check.due("9: a 16th of " + sign * measured, net.rate(1), -sign * (measured / 16));
            }
        }
    }

    private void theGreatestOffsets() {
        TimeNet net = Nets.line(1, 2);
        net.setOffset(0, 1000000);
        net.setOffset(1, -1000000);
        check.due("21: the greatest that can be set", net.spread(0), 2000000);
        net.tick(1);
        check.due("9: half of -2000000", net.offset(1), 0);
        check.due("9: a 16th of -2000000", net.rate(1), 125000);
        net.setOffset(1, 1000000);
        net.tick(1);
        // 1125000 less 1000000: 62500 and 7812.
        check.due("19: an offset may pass what can be set", net.offset(1), 1062500);
        check.due("5: and is what was before", net.setOffset(1, 0), 1062500);
        check.due("20: the rate is not touched by that", net.rate(1), 117188);
    }

    /** Long free runs, each ended by one tick of steering, make what is measured grow beyond what a long holds. */
    private void noOffsetIsTooGreat() {
        TimeNet net = Nets.line(1, 2);
        net.setDrift(1, 100);
        boolean wasGreat = false;
        for (int round = 0; round < 30; round++) {
            net.tick(1);
            net.cut(0, 1);
            for (int free = 0; free < 3; free++) {
                check.due("9: ticks, whatever the offset", net.tick(50), round * 151 + 1 + 50 * (free + 1));
            }
            net.link(0, 1, 0, 0);
            long offset = net.offset(1);
            // Node 0 rests at 0, so that the spread is the offset without its sign.
            check.due("21: of two, whatever the offset", net.spread(0), Math.abs(offset));
            wasGreat |= Math.abs(offset / 2) > Long.MAX_VALUE / 4;
        }
        check.due("19: an offset came near the greatest long", wasGreat, true);
    }

    // ---- the spread

    private void spreadOfFewerThanTwo() {
        TimeNet net = Nets.none();
        check.due("21: no node", net.spread(0), 0);
        check.due("21: no node", net.spread(1), 0);
        net.add(1, 0, 0, 0);
        net.setOffset(0, 700);
        check.due("21: one node", net.spread(1), 0);
        check.due("21: no node beside one of the other domain", net.spread(0), 0);
        net.setOffset(0, -700);
        check.due("21: one node below 0", net.spread(1), 0);
        net.add(0, 0, 0, 0);
        check.due("21: one node of each", net.spread(0), 0);
        check.due("21: one node of each", net.spread(1), 0);
    }

    private void spreadOfTwo() {
        TimeNet net = Nets.nodes(1, 2);
        check.due("21: two of one offset", net.spread(0), 0);
        net.setOffset(0, 5);
        check.due("21: the first is the greater", net.spread(0), 5);
        net.setOffset(1, 9);
        check.due("21: the second is the greater, both above 0", net.spread(0), 4);
        net.setOffset(0, -11);
        net.setOffset(1, -2);
        check.due("21: both below 0", net.spread(0), 9);
        net.setOffset(1, 2);
        check.due("21: on either side of 0", net.spread(0), 13);
        check.due("21: of the other domain", net.spread(1), 0);
    }

    private void spreadOfTen() {
        TimeNet net = new TimeNet();
        for (int node = 0; node < 10; node++) {
            net.add(node % 2, 0, 0, 0);
            net.setOffset(node, node * node * (node % 3 == 0 ? -1 : 1));
        }
        // Of domain 0: 0, 4, 16, -36, 64. Of domain 1: 1, -9, 25, 49, -81.
        check.due("21: of five", net.spread(0), 100);
        check.due("21: of five", net.spread(1), 130);
    }

    private void ticks() {
        atFirst();
        withoutParentNoneIsSteered();
        offsetsGrowFirst();
        fiftyAtOnceAreFiftyTimesOne();
        fewerStepsFirst();
        nineStepsTooAndLast();
        ofSeveralTheLowerNumberFirst();
    }

    private void errors() {
        errorRoundsTowardZero();
        errorLessWhatIsTold();
        errorAtItsGreatest();
        eitherEndMayBeNamedFirst();
        toldIsZeroAtFirst();
        delaysOfALinkThatIsLaidAgain();
    }

    public static void main(String[] args) {
        EdgesOfTimeTest test = new EdgesOfTimeTest();
        test.ticks();
        test.errors();
        test.steeringRoundsTowardZero();
        test.theGreatestOffsets();
        test.noOffsetIsTooGreat();
        test.spreadOfFewerThanTwo();
        test.spreadOfTwo();
        test.spreadOfTen();
        test.check.end();
    }
}
