/** The nets that several tests begin with. */
final class Nets {
    private Nets() {
    }

    static TimeNet none() {
        return new TimeNet();
    }

    /** Nodes of domain 0 with these classes, without links. */
    static TimeNet nodes(int... grades) {
        TimeNet net = new TimeNet();
        for (int grade : grades) {
            net.add(0, grade, 0, 0);
        }
        return net;
    }

    /** The same, each linked with the next one. */
    static TimeNet line(int... grades) {
        TimeNet net = nodes(grades);
        for (int node = 1; node < grades.length; node++) {
            net.link(node - 1, node, 0, 0);
        }
        return net;
    }

    static TimeNet one() {
        return nodes(7);
    }

    /** As many nodes as there may be. */
    static TimeNet ten() {
        return line(7, 7, 7, 7, 7, 7, 7, 7, 7, 7);
    }

    /**
     * Four nodes in which each thing held differs from what it is at first: 0, 1 and 2 in a line, 3 of the other
     * domain; 0 and 1, 1 and 2, 0 and 3 are linked; node 2 is the best of its domain.
     */
    static TimeNet built() {
        TimeNet net = new TimeNet();
        net.add(0, 7, 500, 3);
        net.add(0, 7, 501, -2);
        net.add(0, 7, 499, 1);
        net.add(1, 7, 500, 4);
        net.link(0, 1, 90, 4);
        net.link(2, 1, 5, 70);
        net.link(0, 3, 1, 2);
        net.tell(0, 1, 33);
        net.tick(3);
        net.setOffset(1, 40);
        return net;
    }
}
