import java.util.ArrayList;
import java.util.Comparator;
import java.util.List;
import java.util.Map;
import java.util.TreeMap;

/** The document once more, written in another way and without thought of speed, to compare with. */
final class Model {
    private record Clock(int grade, int variance, int node, int steps, int parent) {
        static final Comparator<Clock> ORDER = Comparator.comparingInt(Clock::grade)
            .thenComparingInt(Clock::variance).thenComparingInt(Clock::node)
            .thenComparingInt(Clock::steps).thenComparingInt(Clock::parent);
    }

    private static final class Member {
        int domain;
        int grade;
        int variance;
        int drift;
        long offset = 0;
        long rate = 0;
        Clock known;
    }

    private final List<Member> members = new ArrayList<>();
    /** By "from>to"; a link stands here twice, once for each direction. */
    private final Map<String, Integer> delays = new TreeMap<>();
    /** By "lower>higher" alone. */
    private final Map<String, Integer> told = new TreeMap<>();
    private int ticked = 0;

    private static void range(long value, long least, long most) {
        if (value < least || value > most) {
            throw new IllegalArgumentException();
        }
    }

    private Member member(int node) {
        if (node < 0 || node > members.size() - 1) {
            throw new IndexOutOfBoundsException();
        }
        return members.get(node);
    }

    private static String way(int from, int to) {
        return from + ">" + to;
    }

    private static String sorted(int one, int other) {
        return way(Math.min(one, other), Math.max(one, other));
    }

    private boolean neighbours(int one, int other) {
        return delays.containsKey(way(one, other)) && members.get(one).domain == members.get(other).domain;
    }

    private Clock own(int node) {
        Member member = members.get(node);
        return new Clock(member.grade, member.variance, node, 0, -1);
    }

    int add(int domain, int grade, int variance, int drift) {
        range(domain, 0, 1);
        range(grade, 0, 255);
        range(variance, 0, 1000);
        range(drift, -100, 100);
        if (members.size() == 10) {
            throw new IllegalStateException();
        }
        Member member = new Member();
        member.domain = domain;
        member.grade = grade;
        member.variance = variance;
        member.drift = drift;
        members.add(member);
        member.known = own(members.size() - 1);
        return members.size() - 1;
    }

    int setClock(int node, int grade, int variance) {
        Member member = member(node);
        range(grade, 0, 255);
        range(variance, 0, 1000);
        int before = member.grade;
        member.grade = grade;
        member.variance = variance;
        return before;
    }

    int setDrift(int node, int drift) {
        Member member = member(node);
        range(drift, -100, 100);
        int before = member.drift;
        member.drift = drift;
        return before;
    }

    long setOffset(int node, int offset) {
        Member member = member(node);
        range(offset, -1000000, 1000000);
        long before = member.offset;
        member.offset = offset;
        return before;
    }

    int link(int one, int other, int there, int back) {
        member(one);
        member(other);
        if (one == other) {
            throw new IllegalArgumentException();
        }
        range(there, 0, 100000);
        range(back, 0, 100000);
        if (told.containsKey(sorted(one, other))) {
            throw new IllegalStateException();
        }
        delays.put(way(one, other), there);
        delays.put(way(other, one), back);
        told.put(sorted(one, other), 0);
        return told.size();
    }

    int cut(int one, int other) {
        member(one);
        member(other);
        if (!told.containsKey(sorted(one, other))) {
            throw new IllegalStateException();
        }
        told.remove(sorted(one, other));
        delays.remove(way(one, other));
        delays.remove(way(other, one));
        if (members.get(one).known.parent() == other) {
            members.get(one).known = own(one);
        }
        if (members.get(other).known.parent() == one) {
            members.get(other).known = own(other);
        }
        return told.size();
    }

    int tell(int one, int other, int difference) {
        member(one);
        member(other);
        range(difference, -100000, 100000);
        if (!told.containsKey(sorted(one, other))) {
            throw new IllegalStateException();
        }
        int sign = one < other ? 1 : -1;
        return sign * told.put(sorted(one, other), sign * difference);
    }

    int tick(int ticks) {
        range(ticks, 1, 50);
        for (int left = ticks; left > 0; left--) {
            for (Member member : members) {
                member.offset = member.offset + member.drift + member.rate;
            }
            announce();
            steer();
            ticked++;
        }
        return ticked;
    }

    private void announce() {
        List<Clock> then = new ArrayList<>();
        for (int node = 0; node < members.size(); node++) {
            List<Clock> offers = new ArrayList<>(List.of(own(node)));
            for (int other = members.size() - 1; other >= 0; other--) {
                Clock theirs = members.get(other).known;
                if (neighbours(node, other) && theirs.steps() != 9 && theirs.parent() != node) {
                    offers.add(new Clock(theirs.grade(), theirs.variance(), theirs.node(), theirs.steps() + 1, other));
                }
            }
            offers.sort(Clock.ORDER);
            then.add(offers.get(0));
        }
        for (int node = 0; node < members.size(); node++) {
            members.get(node).known = then.get(node);
        }
    }

    private void steer() {
        List<Integer> order = new ArrayList<>();
        for (int node = 0; node < members.size(); node++) {
            if (members.get(node).known.parent() != -1) {
                order.add(node);
            }
        }
        order.sort(Comparator.comparingInt((Integer node) -> members.get(node).known.steps())
            .thenComparingInt(node -> node));
        for (int node : order) {
            Member member = members.get(node);
            int parent = member.known.parent();
            int toldThere = told.get(sorted(parent, node)) * (parent < node ? 1 : -1);
            long error = (delays.get(way(parent, node)) - delays.get(way(node, parent)) - toldThere) / 2;
            long measured = member.offset - members.get(parent).offset + error;
            member.offset = member.offset - measured / 2;
            member.rate = member.rate - measured / 16;
        }
    }

    int nodes() {
        return members.size();
    }

    int links() {
        return told.size();
    }

    int best(int node) {
        return member(node).known.node();
    }

    int steps(int node) {
        return member(node).known.steps();
    }

    int parent(int node) {
        return member(node).known.parent();
    }

    int port(int node, int other) {
        Clock mine = member(node).known;
        Clock theirs = member(other).known;
        if (!neighbours(node, other)) {
            return 0;
        }
        if (mine.parent() == other) {
            return 1;
        }
        if (theirs.parent() == node) {
            return 2;
        }
        if (mine.steps() == theirs.steps()) {
            return node < other ? 2 : 3;
        }
        return mine.steps() < theirs.steps() ? 2 : 3;
    }

    private int[][] distances() {
        int size = members.size();
        int[][] far = new int[size][size];
        for (int one = 0; one < size; one++) {
            for (int other = 0; other < size; other++) {
                far[one][other] = one == other ? 0 : neighbours(one, other) ? 1 : 1000;
            }
        }
        for (int middle = 0; middle < size; middle++) {
            for (int one = 0; one < size; one++) {
                for (int other = 0; other < size; other++) {
                    far[one][other] = Math.min(far[one][other], far[one][middle] + far[middle][other]);
                }
            }
        }
        return far;
    }

    private Clock byGraph(int node) {
        member(node);
        int[][] far = distances();
        List<Clock> reached = new ArrayList<>();
        for (int other = 0; other < members.size(); other++) {
            if (far[node][other] < 1000) {
                Clock its = own(other);
                reached.add(new Clock(its.grade(), its.variance(), other, far[node][other], -1));
            }
        }
        reached.sort(Clock.ORDER);
        return reached.get(0);
    }

    int bestByGraph(int node) {
        return byGraph(node).node();
    }

    int stepsByGraph(int node) {
        return byGraph(node).steps();
    }

    boolean isSettled() {
        boolean settled = true;
        for (int node = 0; node < members.size(); node++) {
            settled &= best(node) == bestByGraph(node) && steps(node) == stepsByGraph(node);
        }
        return settled;
    }

    long offset(int node) {
        return member(node).offset;
    }

    long rate(int node) {
        return member(node).rate;
    }

    long spread(int domain) {
        range(domain, 0, 1);
        long widest = 0;
        for (Member one : members) {
            for (Member other : members) {
                if (one.domain == domain && other.domain == domain) {
                    widest = Math.max(widest, one.offset - other.offset);
                }
            }
        }
        return widest;
    }
}
