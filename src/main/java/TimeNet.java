/** A net that distributes time, as ../shared/DOC.md promises it. */
public final class TimeNet {
    public static final int NONE = -1;
    public static final int NO_PORT = 0, FOLLOWS = 1, LEADS = 2, RESTS = 3;

    private static final int MOST_NODES = 10;
    private static final int MOST_STEPS = 9;
    private static final int MOST_DOMAIN = 1;
    private static final int MOST_GRADE = 255;
    private static final int MOST_VARIANCE = 1000;
    private static final int MOST_DRIFT = 100;
    private static final int MOST_OFFSET = 1000000;
    private static final int MOST_DELAY = 100000;
    private static final int MOST_DIFFERENCE = 100000;
    private static final int MOST_TICKS = 50;
    private static final int OFFSET_SHARE = 2;
    private static final int RATE_SHARE = 16;

    private final int[] domainOf = new int[MOST_NODES];
    private final int[] gradeOf = new int[MOST_NODES];
    private final int[] varianceOf = new int[MOST_NODES];
    private final int[] driftOf = new int[MOST_NODES];
    private final long[] offsetOf = new long[MOST_NODES];
    private final long[] rateOf = new long[MOST_NODES];
    private final Wires wires = new Wires();
    private final Knowledge known = new Knowledge();
    // All announce at once, so what was known ahead of it is kept beside what is known then.
    private final Knowledge heard = new Knowledge();
    // Kept here, so that no call needs a new row.
    private final int[] distanceTo = new int[MOST_NODES];
    private int nodeCount = 0;
    private int tickCount = 0;

    public TimeNet() {
    }

    // ---- nodes and links

    public int add(int domain, int grade, int variance, int drift)
            throws IllegalArgumentException, IllegalStateException {
        requireWithin(domain, 0, MOST_DOMAIN);
        requireWithin(grade, 0, MOST_GRADE);
        requireWithin(variance, 0, MOST_VARIANCE);
        requireWithin(drift, -MOST_DRIFT, MOST_DRIFT);
        if (nodeCount >= MOST_NODES) {
            throw new IllegalStateException("there are 10 nodes");
        }
        int node = nodeCount;
        nodeCount++;
        domainOf[node] = domain;
        gradeOf[node] = grade;
        varianceOf[node] = variance;
        driftOf[node] = drift;
        knowOnlyItself(node);
        return node;
    }

    public int setClock(int node, int grade, int variance)
            throws IndexOutOfBoundsException, IllegalArgumentException {
        requireNode(node);
        requireWithin(grade, 0, MOST_GRADE);
        requireWithin(variance, 0, MOST_VARIANCE);
        int before = gradeOf[node];
        gradeOf[node] = grade;
        varianceOf[node] = variance;
        return before;
    }

    public int setDrift(int node, int drift)
            throws IndexOutOfBoundsException, IllegalArgumentException {
        requireNode(node);
        requireWithin(drift, -MOST_DRIFT, MOST_DRIFT);
        int before = driftOf[node];
        driftOf[node] = drift;
        return before;
    }

    public long setOffset(int node, int offset)
            throws IndexOutOfBoundsException, IllegalArgumentException {
        requireNode(node);
        requireWithin(offset, -MOST_OFFSET, MOST_OFFSET);
        long before = offsetOf[node];
        offsetOf[node] = offset;
        return before;
    }

    public int link(int one, int other, int there, int back)
            throws IndexOutOfBoundsException, IllegalArgumentException, IllegalStateException {
        requireNode(one);
        requireNode(other);
        if (one == other) {
            throw new IllegalArgumentException("a node is not linked with itself");
        }
        requireWithin(there, 0, MOST_DELAY);
        requireWithin(back, 0, MOST_DELAY);
        if (wires.areLinked(one, other)) {
            throw new IllegalStateException("they are linked");
        }
        wires.lay(one, other, there, back);
        return wires.count;
    }

    public int cut(int one, int other)
            throws IndexOutOfBoundsException, IllegalStateException {
        requireNode(one);
        requireNode(other);
        requireLinked(one, other);
        wires.remove(one, other);
        forgetParent(one, other);
        forgetParent(other, one);
        return wires.count;
    }

    public int tell(int one, int other, int difference)
            throws IndexOutOfBoundsException, IllegalArgumentException, IllegalStateException {
        requireNode(one);
        requireNode(other);
        requireWithin(difference, -MOST_DIFFERENCE, MOST_DIFFERENCE);
        requireLinked(one, other);
        return wires.noteDifference(one, other, difference);
    }

    public int tick(int ticks) throws IllegalArgumentException {
        requireWithin(ticks, 1, MOST_TICKS);
        for (int passed = 0; passed < ticks; passed++) {
            passOneTick();
        }
        tickCount += ticks;
        return tickCount;
    }

    public int nodes() {
        return nodeCount;
    }

    public int links() {
        return wires.count;
    }

    // ---- what is known

    public int best(int node) throws IndexOutOfBoundsException {
        requireNode(node);
        return known.clockNode[node];
    }

    public int steps(int node) throws IndexOutOfBoundsException {
        requireNode(node);
        return known.stepsAway[node];
    }

    public int parent(int node) throws IndexOutOfBoundsException {
        requireNode(node);
        return known.knownFrom[node];
    }

    public int port(int node, int other) throws IndexOutOfBoundsException {
        requireNode(node);
        requireNode(other);
        if (!areNeighbours(node, other)) {
            return NO_PORT;
        }
        if (known.knownFrom[node] == other) {
            return FOLLOWS;
        }
        if (known.knownFrom[other] == node || isNearer(node, other)) {
            return LEADS;
        }
        return RESTS;
    }

    public int bestByGraph(int node) throws IndexOutOfBoundsException {
        requireNode(node);
        measureDistances(node);
        return bestInReach(node);
    }

    public int stepsByGraph(int node) throws IndexOutOfBoundsException {
        requireNode(node);
        measureDistances(node);
        return distanceTo[bestInReach(node)];
    }

    public boolean isSettled() {
        for (int node = 0; node < nodeCount; node++) {
            measureDistances(node);
            int due = bestInReach(node);
            if (known.clockNode[node] != due || known.stepsAway[node] != distanceTo[due]) {
                return false;
            }
        }
        return true;
    }

    // ---- time

    public long offset(int node) throws IndexOutOfBoundsException {
        requireNode(node);
        return offsetOf[node];
    }

    public long rate(int node) throws IndexOutOfBoundsException {
        requireNode(node);
        return rateOf[node];
    }

    public long spread(int domain) throws IllegalArgumentException {
        requireWithin(domain, 0, MOST_DOMAIN);
        boolean isFirst = true;
        long lowest = 0;
        long highest = 0;
        for (int node = 0; node < nodeCount; node++) {
            if (domainOf[node] == domain) {
                lowest = isFirst ? offsetOf[node] : Math.min(lowest, offsetOf[node]);
                highest = isFirst ? offsetOf[node] : Math.max(highest, offsetOf[node]);
                isFirst = false;
            }
        }
        return highest - lowest;
    }

    // ---- what calls must keep to

    private boolean isNode(int number) {
        return number >= 0 && number < nodeCount;
    }

    private void requireNode(int number) {
        if (!isNode(number)) {
            throw new IndexOutOfBoundsException("there is no such node");
        }
    }

    private static void requireWithin(int value, int least, int most) {
        if (value < least || value > most) {
            throw new IllegalArgumentException("an argument is out of its range");
        }
    }

    private void requireLinked(int one, int other) {
        if (!wires.areLinked(one, other)) {
            throw new IllegalStateException("they are not linked");
        }
    }

    // ---- how clocks are announced

    private boolean areNeighbours(int one, int other) {
        return domainOf[one] == domainOf[other] && wires.areLinked(one, other);
    }

    /** The lower the better: by class, then by variance, then by number. */
    private int rankOf(int node) {
        return (gradeOf[node] * (MOST_VARIANCE + 1) + varianceOf[node]) * MOST_NODES + node;
    }

    private void knowOnlyItself(int node) {
        known.start(node, rankOf(node));
    }

    private void forgetParent(int node, int parent) {
        if (known.knownFrom[node] == parent) {
            knowOnlyItself(node);
        }
    }

    private void announce() {
        heard.copyFrom(known);
        for (int node = 0; node < nodeCount; node++) {
            listen(node);
        }
    }

    private void listen(int node) {
        knowOnlyItself(node);
        // Going up by number, and taking only what is better, leaves equals to the lower neighbour.
        for (int teller = 0; teller < nodeCount; teller++) {
            if (areNeighbours(node, teller) && heard.reaches(teller, node)) {
                known.takeIfBetter(node, teller, heard);
            }
        }
    }

    private boolean isNearer(int node, int other) {
        int mine = known.stepsAway[node];
        int others = known.stepsAway[other];
        return mine < others || mine == others && node < other;
    }

    // ---- how the graph is searched

    private void measureDistances(int start) {
        for (int node = 0; node < nodeCount; node++) {
            distanceTo[node] = NONE;
        }
        distanceTo[start] = 0;
        for (int distance = 0; distance < nodeCount; distance++) {
            for (int node = 0; node < nodeCount; node++) {
                if (distanceTo[node] == distance) {
                    reachNeighbours(node, distance + 1);
                }
            }
        }
    }

    private void reachNeighbours(int node, int distance) {
        for (int other = 0; other < nodeCount; other++) {
            if (distanceTo[other] == NONE && areNeighbours(node, other)) {
                distanceTo[other] = distance;
            }
        }
    }

    private int bestInReach(int start) {
        int winner = start;
        for (int node = 0; node < nodeCount; node++) {
            if (distanceTo[node] != NONE && rankOf(node) < rankOf(winner)) {
                winner = node;
            }
        }
        return winner;
    }

    // ---- how time passes

    private void passOneTick() {
        for (int node = 0; node < nodeCount; node++) {
            offsetOf[node] += driftOf[node] + rateOf[node];
        }
        announce();
        // A parent is steered ahead of its child, so that a child measures what the parent has become.
        for (int distance = 1; distance <= MOST_STEPS; distance++) {
            for (int node = 0; node < nodeCount; node++) {
                if (known.stepsAway[node] == distance) {
                    steer(node);
                }
            }
        }
    }

    private void steer(int node) {
        int parent = known.knownFrom[node];
        if (!isNode(parent)) {
            return;
        }
        long measured = offsetOf[node] - offsetOf[parent] + wires.errorFrom(parent, node);
        offsetOf[node] -= measured / OFFSET_SHARE;
        rateOf[node] -= measured / RATE_SHARE;
    }

    /** What each node knows: a best clock, how many steps away it is, and the parent. */
    private static final class Knowledge {
        private final int[] clockNode = new int[MOST_NODES];
        private final int[] clockRank = new int[MOST_NODES];
        private final int[] stepsAway = new int[MOST_NODES];
        private final int[] knownFrom = new int[MOST_NODES];

        private void start(int node, int rank) {
            clockNode[node] = node;
            clockRank[node] = rank;
            stepsAway[node] = 0;
            knownFrom[node] = NONE;
        }

        private void copyFrom(Knowledge source) {
            for (int node = 0; node < MOST_NODES; node++) {
                clockNode[node] = source.clockNode[node];
                clockRank[node] = source.clockRank[node];
                stepsAway[node] = source.stepsAway[node];
                knownFrom[node] = source.knownFrom[node];
            }
        }

        private boolean reaches(int teller, int node) {
            return stepsAway[teller] < MOST_STEPS && knownFrom[teller] != node;
        }

        private void takeIfBetter(int node, int teller, Knowledge source) {
            int rank = source.clockRank[teller];
            int distance = source.stepsAway[teller] + 1;
            if (rank < clockRank[node] || rank == clockRank[node] && distance < stepsAway[node]) {
                clockNode[node] = source.clockNode[teller];
                clockRank[node] = rank;
                stepsAway[node] = distance;
                knownFrom[node] = teller;
            }
        }
    }

    /** The links, each kept once for either direction. */
    private static final class Wires {
        private final boolean[] laid = new boolean[MOST_NODES * MOST_NODES];
        private final int[] delay = new int[MOST_NODES * MOST_NODES];
        private final int[] told = new int[MOST_NODES * MOST_NODES];
        private int count = 0;

        private static int place(int from, int to) {
            return from * MOST_NODES + to;
        }

        private boolean areLinked(int one, int other) {
            return laid[place(one, other)];
        }

        private void lay(int one, int other, int there, int back) {
            laid[place(one, other)] = true;
            laid[place(other, one)] = true;
            delay[place(one, other)] = there;
            delay[place(other, one)] = back;
            noteDifference(one, other, 0);
            count++;
        }

        private void remove(int one, int other) {
            laid[place(one, other)] = false;
            laid[place(other, one)] = false;
            count--;
        }

        // Kept under both signs, so that no reader needs to know which number is the lower one.
        private int noteDifference(int from, int to, int difference) {
            int before = told[place(from, to)];
            told[place(from, to)] = difference;
            told[place(to, from)] = -difference;
            return before;
        }

        private int errorFrom(int parent, int node) {
            int there = delay[place(parent, node)];
            int back = delay[place(node, parent)];
            return (there - back - told[place(parent, node)]) / 2;
        }
    }
}
