/**
 * Best ways over nodes joined by roads, where turns may be barred: the least cost, then the fewest
 * roads, then the least row of nodes.
 *
 * <p>Inside, a road is two ARCS, one for each direction, because a barred turn makes it matter from
 * which side a node is entered: the search goes from arc to arc, not from node to node.
 */
public final class RoadTurns {
    private static final int MOST_NODES = 300;
    private static final int MOST_ROADS = 2000;
    private static final int MOST_ARCS = 2 * MOST_ROADS;
    private static final int MOST_BARRED = 200;
    private static final int MOST_COST = 1000000000;

    private static final int NO_SUCH_NODE = -14;
    private static final int FULL = -12;
    private static final int NO_WAY = -3;
    private static final int NO_SUCH_COST = -1;

    private static final int NONE = -1;

    // A way's WEIGHT is its cost times this, plus its number of roads, so that one comparison of
    // longs looks at the cost first and at the roads second. No searched way has an arc twice, so it
    // has at most 4000 roads, which is less than this; and 4000 * MOST_COST * 4096 fits a long.
    private static final long COST_STEP = 4096L;

    private final Roads roads;
    private final Turns turns;
    private final Search search;
    private final int[] way;
    private int wayLength;

    public RoadTurns() {
        roads = new Roads();
        turns = new Turns();
        search = new Search(roads, turns);
        way = new int[MOST_ARCS + 1];
        wayLength = 0;
    }

    public boolean size(int n) {
        if (n < 1 || n > MOST_NODES) {
            return false;
        }
        roads.reset(n);
        turns.reset();
        wayLength = 0;
        return true;
    }

    public int road(int a, int b, int cost) {
        if (!roads.hasNode(a) || !roads.hasNode(b) || a == b) {
            return NO_SUCH_NODE;
        }
        if (cost < 1 || cost > MOST_COST) {
            return NO_SUCH_COST;
        }
        int old = roads.signedCost(a, b);
        if (old != 0) {
            roads.change(a, b, old < 0 ? -cost : cost);
            return roads.count();
        }
        if (roads.count() >= MOST_ROADS) {
            return FULL;
        }
        roads.add(a, b, cost);
        return roads.count();
    }

    public boolean close(int a, int b, boolean closed) {
        int old = roads.signedCost(a, b);
        if (old == 0 || (old < 0) == closed) {
            return false;
        }
        roads.change(a, b, -old);
        return true;
    }

    public int cost(int a, int b) {
        return roads.signedCost(a, b);
    }

    public int bar(int a, int b, int c, boolean barred) {
        if (!roads.hasNode(a) || !roads.hasNode(b) || !roads.hasNode(c) || a == b || b == c) {
            return NO_SUCH_NODE;
        }
        if (turns.isBarred(a, b, c) == barred) {
            return turns.count;
        }
        if (!barred) {
            turns.remove(a, b, c);
            return turns.count;
        }
        if (turns.count >= MOST_BARRED) {
            return FULL;
        }
        turns.add(a, b, c);
        return turns.count;
    }

    public long route(int a, int b) {
        // The latest route() decides what length() and node() tell, also when it finds nothing.
        wayLength = 0;
        if (!roads.hasNode(a) || !roads.hasNode(b)) {
            return NO_SUCH_NODE;
        }
        if (a == b) {
            append(a);
            return 0L;
        }
        // Searched from the end, so that the least row can then be picked from its beginning.
        search.begin(b, true);
        long weight = search.weightOfFirstArrival(a);
        if (weight == 0L) {
            return NO_WAY;
        }
        layWay(a, weight);
        return weight / COST_STEP;
    }

    public int length() {
        return wayLength;
    }

    public int node(int k) {
        return k >= 0 && k < wayLength ? way[k] : NONE;
    }

    public int within(int a, long most) {
        if (!roads.hasNode(a)) {
            return NO_SUCH_NODE;
        }
        if (most < 0L) {
            return 0;
        }
        search.begin(a, false);
        return 1 + search.countOtherNodes(most);
    }

    private void append(int node) {
        if (wayLength < way.length) {
            way[wayLength] = node;
            wayLength++;
        }
    }

    /** Takes the least node at each step from which the rest of the way can still be a best one. */
    private void layWay(int from, long weight) {
        int before = NONE;
        int at = from;
        long rest = weight;
        append(at);
        for (int steps = 0; steps < MOST_ARCS && rest > 0L; steps++) {
            int arc = search.leastArcBackTo(at, before, rest);
            if (arc == NONE) {
                return;
            }
            rest -= roads.weightOf(arc);
            before = at;
            at = roads.originOf(arc);
            append(at);
        }
    }

    /** The first place from low up to (not with) high whose key is not below the wanted one; or high. */
    private static int placeIn(int[] keys, int low, int high, int wanted) {
        int from = low;
        int to = high;
        while (from < to) {
            int middle = from + (to - from) / 2;
            if (keys[middle] < wanted) {
                from = middle + 1;
            } else {
                to = middle;
            }
        }
        return from;
    }

    private static void insert(int[] row, int count, int place, int value) {
        if (place < 0 || place > count || count >= row.length) {
            return;
        }
        System.arraycopy(row, place, row, place + 1, count - place);
        row[place] = value;
    }

    /** The nodes, and the arcs in one row sorted by origin and then by target. */
    private static final class Roads {
        private int nodes;
        private int arcs;
        private final int[] ends;
        // Below 0 while the road is closed, as cost() tells it.
        private final int[] signedCosts;
        // The arcs that begin at node v stand from firstArc[v] up to, not with, firstArc[v + 1].
        private final int[] firstArc;

        Roads() {
            nodes = 1;
            arcs = 0;
            ends = new int[MOST_ARCS];
            signedCosts = new int[MOST_ARCS];
            firstArc = new int[MOST_NODES + 1];
        }

        void reset(int n) {
            nodes = n;
            arcs = 0;
            for (int v = 0; v < firstArc.length; v++) {
                firstArc[v] = 0;
            }
        }

        boolean hasNode(int v) {
            return v >= 0 && v < nodes;
        }

        int count() {
            return arcs / 2;
        }

        int originOf(int arc) {
            return ends[arc] / MOST_NODES;
        }

        int targetOf(int arc) {
            return ends[arc] % MOST_NODES;
        }

        boolean isOpen(int arc) {
            return signedCosts[arc] > 0;
        }

        /** What an open arc adds to the weight of a way. */
        long weightOf(int arc) {
            return signedCosts[arc] * COST_STEP + 1L;
        }

        int find(int origin, int target) {
            if (!hasNode(origin) || !hasNode(target)) {
                return NONE;
            }
            int place = placeOf(origin, target);
            return place < firstArc[origin + 1] && ends[place] == key(origin, target) ? place : NONE;
        }

        int signedCost(int a, int b) {
            int arc = find(a, b);
            return arc == NONE ? 0 : signedCosts[arc];
        }

        void change(int a, int b, int signedCost) {
            int there = find(a, b);
            int back = find(b, a);
            if (there == NONE || back == NONE) {
                return;
            }
            signedCosts[there] = signedCost;
            signedCosts[back] = signedCost;
        }

        void add(int a, int b, int signedCost) {
            addArc(a, b, signedCost);
            addArc(b, a, signedCost);
        }

        private void addArc(int origin, int target, int signedCost) {
            int place = placeOf(origin, target);
            insert(ends, arcs, place, key(origin, target));
            insert(signedCosts, arcs, place, signedCost);
            arcs++;
            for (int v = origin + 1; v < firstArc.length; v++) {
                firstArc[v]++;
            }
        }

        private int placeOf(int origin, int target) {
            return placeIn(ends, firstArc[origin], firstArc[origin + 1], key(origin, target));
        }

        private static int key(int origin, int target) {
            return origin * MOST_NODES + target;
        }
    }

    /** The barred turns, sorted, because the search asks for them far more often than they change. */
    private static final class Turns {
        private int count;
        private final int[] keys;

        Turns() {
            count = 0;
            keys = new int[MOST_BARRED];
        }

        void reset() {
            count = 0;
        }

        boolean isBarred(int a, int b, int c) {
            int key = key(a, b, c);
            int place = placeIn(keys, 0, count, key);
            return place < count && keys[place] == key;
        }

        void add(int a, int b, int c) {
            if (count >= keys.length) {
                return;
            }
            int key = key(a, b, c);
            insert(keys, count, placeIn(keys, 0, count, key), key);
            count++;
        }

        void remove(int a, int b, int c) {
            int key = key(a, b, c);
            int place = placeIn(keys, 0, count, key);
            if (place >= count || keys[place] != key) {
                return;
            }
            System.arraycopy(keys, place + 1, keys, place, count - place - 1);
            count--;
        }

        private static int key(int a, int b, int c) {
            return (a * MOST_NODES + b) * MOST_NODES + c;
        }
    }

    /**
     * Goes out from one node over the arcs, the lightest way first. The first way that comes to a
     * node and may turn into an arc is the lightest that ends with this arc, so every arc gets its
     * weight once, and is dealt with once.
     */
    private static final class Search {
        private static final int NOT_REACHED = -1;

        private final Roads roads;
        private final Turns turns;
        // The weight of the lightest way that ends with the arc; 0 while none is known.
        private final long[] weights;
        private final ArcHeap heap;
        // For each reached node the arcs from it that no way could turn into yet: they stand from
        // its first arc's place on, and there are waitingCounts of them.
        private final int[] waiting;
        private final int[] waitingCounts;
        // Whether ways are gone from their end to their beginning: then turns are met mirrored.
        private boolean backward;

        Search(Roads roads, Turns turns) {
            this.roads = roads;
            this.turns = turns;
            weights = new long[MOST_ARCS];
            heap = new ArcHeap(weights);
            waiting = new int[MOST_ARCS];
            waitingCounts = new int[MOST_NODES];
            backward = false;
        }

        void begin(int start, boolean fromTheEnd) {
            backward = fromTheEnd;
            heap.count = 0;
            for (int arc = 0; arc < roads.arcs; arc++) {
                weights[arc] = 0L;
            }
            for (int v = 0; v < roads.nodes; v++) {
                waitingCounts[v] = NOT_REACHED;
            }
            spread(start, NONE, 0L);
        }

        /** The weight of the lightest way between the start and this node; 0 if there is none. */
        long weightOfFirstArrival(int goal) {
            for (int taken = 0; taken < MOST_ARCS; taken++) {
                int arc = heap.take();
                if (arc == NONE) {
                    return 0L;
                }
                if (roads.targetOf(arc) == goal) {
                    return weights[arc];
                }
                spread(roads.targetOf(arc), roads.originOf(arc), weights[arc]);
            }
            return 0L;
        }

        int countOtherNodes(long mostCost) {
            int found = 0;
            for (int taken = 0; taken < MOST_ARCS; taken++) {
                int arc = heap.take();
                if (arc == NONE || weights[arc] / COST_STEP > mostCost) {
                    return found;
                }
                if (waitingCounts[roads.targetOf(arc)] == NOT_REACHED) {
                    found++;
                }
                spread(roads.targetOf(arc), roads.originOf(arc), weights[arc]);
            }
            return found;
        }

        /**
         * After a backward search: the arc to a node that ends a way of just this weight, from the
         * least origin, and such that the way gone forward may come from the node before.
         */
        int leastArcBackTo(int at, int before, long weight) {
            for (int place = roads.firstArc[at]; place < roads.firstArc[at + 1]; place++) {
                int next = roads.targetOf(place);
                int arc = roads.find(next, at);
                if (arc != NONE && weights[arc] == weight && mayTurn(next, at, before)) {
                    return arc;
                }
            }
            return NONE;
        }

        private void spread(int at, int before, long weight) {
            if (waitingCounts[at] == NOT_REACHED) {
                gatherOpenArcs(at);
            }
            int first = roads.firstArc[at];
            int kept = 0;
            for (int i = 0; i < waitingCounts[at]; i++) {
                int arc = waiting[first + i];
                if (mayTurn(before, at, roads.targetOf(arc))) {
                    weights[arc] = weight + roads.weightOf(arc);
                    heap.add(arc);
                } else {
                    waiting[first + kept] = arc;
                    kept++;
                }
            }
            waitingCounts[at] = kept;
        }

        private void gatherOpenArcs(int at) {
            int first = roads.firstArc[at];
            int gathered = 0;
            for (int arc = first; arc < roads.firstArc[at + 1]; arc++) {
                if (roads.isOpen(arc)) {
                    waiting[first + gathered] = arc;
                    gathered++;
                }
            }
            waitingCounts[at] = gathered;
        }

        /** The nodes in the order in which the search meets them; NONE where the way begins or ends. */
        private boolean mayTurn(int before, int at, int after) {
            if (before == NONE || after == NONE) {
                return true;
            }
            return backward ? !turns.isBarred(after, at, before) : !turns.isBarred(before, at, after);
        }
    }

    /** Arcs that have a weight and are not dealt with yet; the lightest is taken first. */
    private static final class ArcHeap {
        private final long[] weights;
        private final int[] arcs;
        private int count;

        ArcHeap(long[] weights) {
            this.weights = weights;
            arcs = new int[MOST_ARCS];
            count = 0;
        }

        void add(int arc) {
            if (count >= arcs.length) {
                return;
            }
            int place = count;
            count++;
            while (place > 0) {
                int parent = (place - 1) / 2;
                if (weights[arcs[parent]] <= weights[arc]) {
                    break;
                }
                arcs[place] = arcs[parent];
                place = parent;
            }
            arcs[place] = arc;
        }

        int take() {
            if (count <= 0) {
                return NONE;
            }
            int lightest = arcs[0];
            count--;
            int moved = arcs[count];
            int place = 0;
            int child = 1;
            while (child < count) {
                if (child + 1 < count && weights[arcs[child + 1]] < weights[arcs[child]]) {
                    child++;
                }
                if (weights[arcs[child]] >= weights[moved]) {
                    break;
                }
                arcs[place] = arcs[child];
                place = child;
                child = 2 * place + 1;
            }
            arcs[place] = moved;
            return lightest;
        }
    }
}
