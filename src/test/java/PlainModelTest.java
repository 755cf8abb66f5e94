import java.util.ArrayList;
import java.util.HashSet;
import java.util.List;
import java.util.Random;
import java.util.Set;
import java.util.TreeMap;

/** Long runs of drawn calls, each answer held against a model that is slow and plain. */
public final class PlainModelTest {
  private static final int CALLS = 512;
  private static int wrong = 0;

  /** The document's words, with whole rows of nodes kept and compared. */
  private static final class Model {
    int n = 1;
    final TreeMap<Integer, Integer> costs = new TreeMap<>();
    final Set<Integer> closed = new HashSet<>();
    final Set<List<Integer>> barred = new HashSet<>();
    List<Integer> way = List.of();

    private record Way(long cost, List<Integer> nodes) {
      boolean betterThan(Way other) {
        if (other == null) return true;
        if (cost != other.cost) return cost < other.cost;
        if (nodes.size() != other.nodes.size()) return nodes.size() < other.nodes.size();
        for (int i = 0; i < nodes.size(); i++) {
          int here = nodes.get(i), there = other.nodes.get(i);
          if (here != there) return here < there;
        }
        return false;
      }

      int last(int k) {
        return nodes.get(nodes.size() - k);
      }
    }

    private boolean no(int v) {
      return v < 0 || v >= n;
    }

    private static int road(int a, int b) {
      return Math.min(a, b) * 1000 + Math.max(a, b);
    }

    private boolean none(int a, int b) {
      return no(a) || no(b) || !costs.containsKey(road(a, b));
    }

    long size(int to) {
      if (to < 1 || to > 300) return 0;
      n = to;
      costs.clear();
      closed.clear();
      barred.clear();
      way = List.of();
      return 1;
    }

    long road(int a, int b, int cost) {
      if (no(a) || no(b) || a == b) return -14;
      if (cost < 1 || cost > 1000000000) return -1;
      if (none(a, b) && costs.size() == 2000) return -12;
      costs.put(road(a, b), cost);
      return costs.size();
    }

    long close(int a, int b, boolean to) {
      if (none(a, b)) return 0;
      return (to ? closed.add(road(a, b)) : closed.remove(road(a, b))) ? 1 : 0;
    }

    long cost(int a, int b) {
      if (none(a, b)) return 0;
      return closed.contains(road(a, b)) ? -costs.get(road(a, b)) : costs.get(road(a, b));
    }

    long bar(int a, int b, int c, boolean to) {
      if (no(a) || no(b) || no(c) || a == b || b == c) return -14;
      List<Integer> turn = List.of(a, b, c);
      if (to && !barred.contains(turn) && barred.size() == 200) return -12;
      if (to) barred.add(turn);
      else barred.remove(turn);
      return barred.size();
    }

    /** The best way from a node to each node, by making every way longer until none gets better. */
    private Way[] bestWays(int from) {
      Way[][] byLastRoad = new Way[n][n];
      Way start = new Way(0, List.of(from));
      List<Way> fresh = List.of(start);
      while (!fresh.isEmpty()) {
        List<Way> next = new ArrayList<>();
        for (Way w : fresh) {
          int at = w.last(1);
          for (int to = 0; to < n; to++) {
            if (cost(at, to) <= 0) continue;
            if (w.nodes.size() > 1 && barred.contains(List.of(w.last(2), at, to))) continue;
            List<Integer> row = new ArrayList<>(w.nodes);
            row.add(to);
            Way longer = new Way(w.cost + cost(at, to), row);
            if (longer.betterThan(byLastRoad[at][to])) {
              byLastRoad[at][to] = longer;
              next.add(longer);
            }
          }
        }
        fresh = next;
      }
      Way[] best = new Way[n];
      for (Way[] row : byLastRoad) {
        for (int to = 0; to < n; to++) {
          if (row[to] != null && row[to].betterThan(best[to])) best[to] = row[to];
        }
      }
      best[from] = start;
      return best;
    }

    long route(int a, int b) {
      way = List.of();
      if (no(a) || no(b)) return -14;
      Way best = bestWays(a)[b];
      if (best == null) return -3;
      way = best.nodes;
      return best.cost;
    }

    long node(int k) {
      return k < 0 || k >= way.size() ? -1 : way.get(k);
    }

    long within(int a, long most) {
      if (no(a)) return -14;
      int count = 0;
      for (Way w : bestWays(a)) {
        if (w != null && w.cost <= most) count++;
      }
      return count;
    }
  }

  /** One run: how many nodes, how many of ten calls make roads or bar turns, and the dearest road. */
  private record Kind(int nodes, int roads, int bars, int dearest) {}

  private static final class Run {
    final String name;
    final Kind kind;
    final Random random;
    final RoadTurns x = new RoadTurns();
    final Model model = new Model();
    private final List<int[]> used = new ArrayList<>();

    Run(int seed, Kind kind) {
      this.name = kind + " seed " + seed;
      this.kind = kind;
      this.random = new Random(seed);
    }

    void due(String call, long got, long want) {
      if (got == want) return;
      wrong++;
      System.out.println(name + ": " + call + " answered " + got + ", due is " + want);
    }

    /** A node, and now and then one that is none. */
    int v() {
      return random.nextInt(60) == 0 ? random.nextInt(3) == 0 ? -1 : kind.nodes : random.nextInt(kind.nodes);
    }

    int dearness() {
      return random.nextInt(60) == 0 ? random.nextInt(2) * 1000000001 : 1 + random.nextInt(kind.dearest);
    }

    void checkWay() {
      due("length()", x.length(), model.way.size());
      for (int k = -1; k <= model.way.size(); k++) due("node(" + k + ")", x.node(k), model.node(k));
    }

    void makeRoad() {
      int a = v(), b = v(), cost = dearness();
      due("road(" + a + ", " + b + ", " + cost + ")", x.road(a, b, cost), model.road(a, b, cost));
      used.add(new int[] {a, b});
    }

    void makeBar() {
      int a = v(), b = v(), c = v();
      // A turn of the latest way, so that the bar matters.
      if (model.way.size() > 2 && random.nextInt(4) != 0) {
        int at = random.nextInt(model.way.size() - 2);
        a = model.way.get(at);
        b = model.way.get(at + 1);
        c = model.way.get(at + 2);
      }
      boolean to = random.nextInt(8) != 0;
      due("bar(" + a + ", " + b + ", " + c + ", " + to + ")", x.bar(a, b, c, to) , model.bar(a, b, c, to));
    }

    void makeClose() {
      int[] ends = used.isEmpty() || random.nextInt(5) == 0 ? new int[] {v(), v()} : used.get(random.nextInt(used.size()));
      boolean to = random.nextInt(3) == 0;
      due("close(" + ends[0] + ", " + ends[1] + ", " + to + ")", x.close(ends[1], ends[0], to) ? 1 : 0, model.close(ends[0], ends[1], to));
      due("cost(" + ends[0] + ", " + ends[1] + ")", x.cost(ends[0], ends[1]), model.cost(ends[0], ends[1]));
    }

    void makeSearch() {
      int a = v(), b = v();
      if (random.nextInt(4) == 0) {
        long most = (long) (random.nextDouble() * 6 * kind.dearest) - 1;
        due("within(" + a + ", " + most + ")", x.within(a, most), model.within(a, most));
      } else {
        due("route(" + a + ", " + b + ")", x.route(a, b), model.route(a, b));
      }
      checkWay();
    }

    void go() {
      due("size", x.size(kind.nodes) ? 1 : 0, model.size(kind.nodes));
      for (int i = 1; i < CALLS; i++) {
        int what = random.nextInt(10);
        if (random.nextInt(300) == 0) {
          int to = random.nextInt(2) * kind.nodes;
          due("size(" + to + ")", x.size(to) ? 1 : 0, model.size(to));
          checkWay();
        } else if (what < kind.roads) {
          makeRoad();
        } else if (what < kind.roads + kind.bars) {
          makeBar();
        } else if (what == 9) {
          makeClose();
        } else {
          makeSearch();
        }
      }
    }
  }

  public static void main(String[] args) {
    Kind[] kinds = {
      new Kind(3, 2, 3, 3), new Kind(5, 2, 4, 2), new Kind(6, 1, 6, 1), new Kind(8, 3, 4, 3), new Kind(9, 3, 4, 1000000000),
      new Kind(12, 3, 4, 2), new Kind(20, 4, 3, 3), new Kind(40, 6, 2, 4), new Kind(60, 7, 1, 2), new Kind(300, 8, 1, 3),
    };
    for (Kind kind : kinds) {
      int runs = kind.nodes < 15 ? 40 : 8;
      for (int seed = 1; seed <= runs && wrong < 50; seed++) new Run(seed, kind).go();
    }
    System.out.println(wrong == 0 ? "all answers are as due" : wrong + " answers are not as due");
    if (wrong != 0) System.exit(1);
  }
}
