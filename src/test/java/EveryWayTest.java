import java.util.Arrays;
import java.util.Random;

/**
 * Small nets, on which every way is listed whole and the best is picked by the document's three
 * rules alone. A way that goes over a road twice in one direction is left out: what lies between
 * could be left out of it, so it is never a best one.
 */
public final class EveryWayTest {
  private static final int NETS = 20000;
  private static int wrong = 0;
  private static int comingAgain = 0;

  private static final class Net {
    final String name;
    final Random random;
    final int n;
    final RoadTurns x = new RoadTurns();
    // Beside the object, what it was told: 0 no road, below 0 a closed one.
    final int[][] costs;
    final boolean[][][] barred;

    private final int[] row = new int[64];
    private final boolean[][] gone;
    private int[] best;
    private long bestCost;

    Net(int seed) {
      name = "net " + seed;
      random = new Random(seed);
      n = 2 + random.nextInt(4);
      costs = new int[n][n];
      barred = new boolean[n][n][n];
      gone = new boolean[n][n];
      x.size(n);
    }

    void draw() {
      int dearest = 1 + random.nextInt(3);
      for (int i = 2 + random.nextInt(6); i > 0; i--) makeRoad(1 + random.nextInt(dearest));
      for (int i = random.nextInt(14); i > 0; i--) {
        if (random.nextInt(3) == 0) setBar(random.nextInt(n), random.nextInt(n), random.nextInt(n), random.nextBoolean());
        else barTurnOfAWay();
      }
    }

    private void makeRoad(int cost) {
      int a = random.nextInt(n), b = random.nextInt(n);
      if (a == b) return;
      x.road(a, b, cost);
      int signed = costs[a][b] < 0 ? -cost : cost;
      if (random.nextInt(10) == 0) {
        x.close(b, a, true);
        signed = -cost;
      }
      costs[a][b] = signed;
      costs[b][a] = signed;
    }

    private void setBar(int a, int b, int c, boolean to) {
      if (x.bar(a, b, c, to) >= 0) barred[a][b][c] = to;
    }

    /** Bars drawn at hazard seldom matter: this one does, since a best way has the turn. */
    private void barTurnOfAWay() {
      x.route(random.nextInt(n), random.nextInt(n));
      int turns = x.length() - 2;
      if (turns < 1) return;
      int at = random.nextInt(turns);
      setBar(x.node(at), x.node(at + 1), x.node(at + 2), true);
    }

    private boolean betterThanBest(long cost, int length) {
      if (best == null) return true;
      if (cost != bestCost) return cost < bestCost;
      if (length != best.length) return length < best.length;
      return Arrays.compare(Arrays.copyOf(row, length), best) < 0;
    }

    private void listWays(int length, long cost, int goal) {
      int at = row[length - 1];
      if (at == goal && betterThanBest(cost, length)) {
        best = Arrays.copyOf(row, length);
        bestCost = cost;
      }
      for (int to = 0; to < n; to++) {
        if (costs[at][to] <= 0 || gone[at][to]) continue;
        if (length > 1 && barred[row[length - 2]][at][to]) continue;
        gone[at][to] = true;
        row[length] = to;
        listWays(length + 1, cost + costs[at][to], goal);
        gone[at][to] = false;
      }
    }

    private void due(String call, long got, long want) {
      if (got == want) return;
      wrong++;
      System.out.println(name + ": " + call + " answered " + got + ", due is " + want);
    }

    /** The cost of the best way from a to b, or the greatest long if there is none. */
    private long checkRoute(int a, int b) {
      best = null;
      row[0] = a;
      listWays(1, 0L, b);
      String call = "route(" + a + ", " + b + ")";
      due(call, x.route(a, b), best == null ? -3 : bestCost);
      int length = best == null ? 0 : best.length;
      due(call + ", length()", x.length(), length);
      for (int k = -1; k <= length; k++) {
        due(call + ", node(" + k + ")", x.node(k), k < 0 || k == length ? -1 : best[k]);
      }
      if (best == null) return Long.MAX_VALUE;
      if (Arrays.stream(best).distinct().count() < best.length) comingAgain++;
      return bestCost;
    }

    void check() {
      for (int a = 0; a < n; a++) {
        long[] leastCosts = new long[n];
        for (int b = 0; b < n; b++) leastCosts[b] = checkRoute(a, b);
        for (long most = -1; most < 16; most++) {
          long limit = most;
          due("within(" + a + ", " + most + ")", x.within(a, most), Arrays.stream(leastCosts).filter(c -> c <= limit).count());
        }
      }
    }
  }

  public static void main(String[] args) {
    for (int seed = 1; seed <= NETS && wrong < 50; seed++) {
      Net net = new Net(seed);
      net.draw();
      net.check();
    }
    // Without such ways the nets would not try what barred turns are about.
    if (comingAgain < 100) {
      wrong++;
      System.out.println("only " + comingAgain + " best ways came to a node again");
    }
    System.out.println(wrong == 0 ? "all answers are as due" : wrong + " answers are not as due");
    if (wrong != 0) System.exit(1);
  }
}
