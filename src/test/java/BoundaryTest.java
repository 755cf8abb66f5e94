import java.util.ArrayList;
import java.util.Arrays;
import java.util.List;
import java.util.function.ToLongFunction;

/**
 * A test of its own for each sentence of the document that names a boundary case: too small, too
 * large, empty, full, a sum that would wrap around, a refused call. Each is named by its sentence.
 */
public final class BoundaryTest {
  private static final int DEAREST = 1000000000;
  private static final int LEAST_INT = Integer.MIN_VALUE;
  private static final int MOST_INT = Integer.MAX_VALUE;

  private static String sentence = "";
  private static int sentences = 0;
  private static int broken = 0;
  private static int wrongHere = 0;

  private static void test(String quoted, Runnable body) {
    sentence = quoted;
    wrongHere = 0;
    try {
      body.run();
    } catch (RuntimeException thrown) {
      wrong("a call threw " + thrown);
    }
    sentences++;
    if (wrongHere > 0) broken++;
  }

  private static void wrong(String what) {
    wrongHere++;
    // The first few tell enough: a limit that is off by one makes hundreds of wrong answers.
    if (wrongHere <= 5) System.out.println("[" + sentence + "] " + what);
  }

  private static void due(String call, long got, long want) {
    if (got != want) wrong(call + " answered " + got + ", due is " + want);
  }

  private static void due(String call, boolean got, boolean want) {
    if (got != want) wrong(call + " answered " + got + ", due is " + want);
  }

  private static int[] wayOf(RoadTurns x) {
    int[] way = new int[Math.max(0, x.length())];
    for (int k = 0; k < way.length; k++) way[k] = x.node(k);
    return way;
  }

  private static void dueWay(String when, RoadTurns x, int... want) {
    int[] got = wayOf(x);
    if (!Arrays.equals(got, want)) wrong(when + ": the way is " + Arrays.toString(got) + ", due is " + Arrays.toString(want));
  }

  private static void dueRoute(RoadTurns x, int a, int b, long cost, int... way) {
    String call = "route(" + a + ", " + b + ")";
    due(call, x.route(a, b), cost);
    dueWay(call, x, way);
  }

  private static RoadTurns sized(int n) {
    RoadTurns x = new RoadTurns();
    due("size(" + n + ")", x.size(n), true);
    return x;
  }

  /** n nodes, and roads that are each told as two ends and a cost. */
  private static RoadTurns net(int n, int... roads) {
    RoadTurns x = sized(n);
    for (int i = 0; i + 2 < roads.length; i += 3) x.road(roads[i], roads[i + 1], roads[i + 2]);
    return x;
  }

  /** Roads 0-1, 1-2, .. with these costs. */
  private static RoadTurns chain(int... costs) {
    RoadTurns x = sized(costs.length + 1);
    for (int i = 0; i < costs.length; i++) x.road(i, i + 1, costs[i]);
    return x;
  }

  /** 200 turns barred, all at node 20 of 21. */
  private static RoadTurns fullOfTurns() {
    RoadTurns x = sized(21);
    for (int i = 0; i < 200; i++) due("bar number " + (i + 1), x.bar(i % 20, 20, i / 20, true), i + 1);
    return x;
  }

  /**
   * 2000 roads: all between nodes 0 .. 62, and 47 of node 63. These are more calls than the document
   * speaks of, but the limit shows no sooner.
   */
  private static RoadTurns fullOfRoads() {
    RoadTurns x = sized(65);
    int made = 0;
    for (int a = 1; a < 64; a++) {
      for (int b = 0; b < a && made < 2000; b++) {
        made++;
        due("road number " + made, x.road(a, b, DEAREST), made);
      }
    }
    return x;
  }

  // The head of the document

  /** 1 + 299 + 200 + 12 calls, and the dearest that there are: the last is answered like the first. */
  private static void usedFor512Calls() {
    int[] costs = new int[299];
    Arrays.fill(costs, DEAREST);
    RoadTurns x = chain(costs);
    for (int v = 1; v <= 200; v++) due("bar at " + v, x.bar(v - 1, v, v + 1, true), v);
    for (int i = 0; i < 5; i++) {
      due("route(299, 0), time " + i, x.route(299, 0), 299L * DEAREST);
      due("within(299, ..), time " + i, x.within(299, 299L * DEAREST), 300);
    }
    due("call 511", x.length(), 300);
    due("call 512", x.route(201, 299), 98L * DEAREST);
  }

  // Terms

  private static void nodesFromZero() {
    for (int n : new int[] {1, 2, 3, 255, 256, 299, 300}) {
      RoadTurns x = sized(n);
      for (int v : new int[] {0, n - 1}) {
        due("of " + n + ": within(" + v + ", 0)", x.within(v, 0), 1);
        due("of " + n + ": route(" + v + ", " + v + ")", x.route(v, v), 0);
      }
      for (int v : new int[] {-1, n, n + 1, LEAST_INT, MOST_INT}) {
        due("of " + n + ": within(" + v + ", 0)", x.within(v, 0), -14);
        due("of " + n + ": route(" + v + ", " + v + ")", x.route(v, v), -14);
      }
    }
  }

  private static void unlikeNodes() {
    RoadTurns x = sized(300);
    for (int v : new int[] {0, 1, 298, 299}) {
      due("road(" + v + ", " + v + ", 1)", x.road(v, v, 1), -14);
      due("cost(" + v + ", " + v + ")", x.cost(v, v), 0);
    }
    due("the nearest unlike nodes", x.road(298, 299, 1), 1);
    due("the farthest unlike nodes", x.road(299, 0, 1), 2);
  }

  private static void goneBothWays() {
    RoadTurns x = net(300, 0, 299, 7, 5, 4, 8);
    dueRoute(x, 0, 299, 7, 0, 299);
    dueRoute(x, 299, 0, 7, 299, 0);
    dueRoute(x, 4, 5, 8, 4, 5);
    dueRoute(x, 5, 4, 8, 5, 4);
    due("within(299, 7)", x.within(299, 7), 2);
    due("within(0, 7)", x.within(0, 7), 2);
  }

  private static void costsFromOne() {
    RoadTurns x = sized(2);
    due("road of cost 0", x.road(0, 1, 0), -1);
    due("road of cost 1000000001", x.road(0, 1, DEAREST + 1), -1);
    due("road of cost 1", x.road(0, 1, 1), 1);
    dueRoute(x, 0, 1, 1, 0, 1);
    due("road of cost 1000000000", x.road(0, 1, DEAREST), 1);
    dueRoute(x, 0, 1, DEAREST, 0, 1);
  }

  private static void atMost2000Roads() {
    RoadTurns x = fullOfRoads();
    due("road number 2001", x.road(63, 47, 1), -12);
    due("between nodes that have none", x.road(63, 64, 1), -12);
    due("a closed road", x.close(0, 1, true), true);
    due("is a road still", x.road(63, 64, 1), -12);
    due("within over all of them", x.within(0, 2L * DEAREST), 64);
    due("size", x.size(65), true);
    due("then there is room again", x.road(63, 64, 1), 1);
  }

  private static void joinedByOpenRoads() {
    RoadTurns x = net(4, 0, 1, 1, 1, 2, 1, 0, 3, 50, 3, 2, 50);
    x.close(1, 2, true);
    dueRoute(x, 0, 2, 100, 0, 3, 2);
    x.close(0, 3, true);
    dueRoute(x, 0, 2, -3);
    due("within(0, ..)", x.within(0, Long.MAX_VALUE), 2);
    x.close(1, 2, false);
    dueRoute(x, 0, 2, 2, 0, 1, 2);
    due("within(0, ..) again", x.within(0, Long.MAX_VALUE), 4);
  }

  /** Sums beyond 2^31 and 2^32, which are below 0, or small, where they wrap around. */
  private static void costIsTheSum() {
    RoadTurns x = chain(DEAREST, DEAREST, DEAREST, DEAREST, DEAREST);
    due("two roads", x.route(0, 2), 2000000000L);
    due("three roads", x.route(0, 3), 3000000000L);
    due("five roads", x.route(5, 0), 5000000000L);
    RoadTurns belowZero = net(4, 0, 1, DEAREST, 1, 2, DEAREST, 2, 3, DEAREST, 0, 3, DEAREST);
    dueRoute(belowZero, 0, 3, DEAREST, 0, 3);
    // 2^32 + 1 in all, and 2 directly.
    RoadTurns small = net(6, 0, 1, 858993459, 1, 2, 858993459, 2, 3, 858993459, 3, 4, 858993460, 4, 5, 858993460, 0, 5, 2);
    dueRoute(small, 0, 5, 2, 0, 5);
    small.close(0, 5, true);
    dueRoute(small, 0, 5, 4294967297L, 0, 1, 2, 3, 4, 5);
  }

  private static void firstAndLastMayBeTheSame() {
    RoadTurns x = net(5, 0, 1, 1, 1, 2, 1, 1, 3, 5, 1, 4, 6);
    due("bar(0, 1, 2)", x.bar(0, 1, 2, true), 1);
    dueRoute(x, 0, 2, 12, 0, 1, 3, 1, 2);
    due("bar(1, 3, 1)", x.bar(1, 3, 1, true), 2);
    dueRoute(x, 0, 2, 14, 0, 1, 4, 1, 2);
    due("within(0, 13)", x.within(0, 13), 4);
    due("bar(1, 4, 1)", x.bar(1, 4, 1, true), 3);
    dueRoute(x, 0, 2, -3);
    due("bar(1, 3, 1) no more", x.bar(1, 3, 1, false), 2);
    dueRoute(x, 0, 2, 12, 0, 1, 3, 1, 2);
  }

  private static void noWayHasABarredTurn() {
    RoadTurns x = chain(1, 1, 1);
    x.bar(1, 2, 3, true);
    dueRoute(x, 0, 3, -3);
    dueRoute(x, 1, 3, -3);
    due("within(0, ..)", x.within(0, Long.MAX_VALUE), 3);
    due("within(1, ..)", x.within(1, Long.MAX_VALUE), 3);
    // Where the way begins or ends in the turn's middle, or goes against it, it does not have the turn.
    dueRoute(x, 2, 3, 1, 2, 3);
    dueRoute(x, 0, 2, 2, 0, 1, 2);
    dueRoute(x, 3, 0, 3, 3, 2, 1, 0);
    due("within(3, ..)", x.within(3, Long.MAX_VALUE), 4);
    // From node 1 on, both rows are alike in cost and roads, and the lesser is behind the barred turn.
    RoadTurns fork = net(5, 0, 1, 1, 1, 2, 1, 1, 3, 1, 2, 4, 1, 3, 4, 1);
    fork.bar(0, 1, 2, true);
    dueRoute(fork, 0, 4, 3, 0, 1, 3, 4);
    dueRoute(fork, 1, 4, 2, 1, 2, 4);
    dueRoute(fork, 4, 0, 3, 4, 2, 1, 0);
  }

  private static void atMost200Barred() {
    RoadTurns x = fullOfTurns();
    due("bar number 201", x.bar(0, 20, 10, true), -12);
    due("one that is free", x.bar(0, 20, 10, false), 200);
    due("free the first", x.bar(0, 20, 0, false), 199);
    due("then there is room", x.bar(0, 20, 10, true), 200);
    due("for one", x.bar(0, 20, 0, true), -12);
    due("size", x.size(21), true);
    due("then for all", x.bar(0, 20, 0, true), 1);
  }

  private static void leastCostFirst() {
    RoadTurns x = net(5, 0, 4, 10, 0, 3, 3, 3, 2, 3, 2, 4, 3);
    dueRoute(x, 0, 4, 9, 0, 3, 2, 4);
    x.road(0, 4, 8);
    dueRoute(x, 0, 4, 8, 0, 4);
  }

  private static void thenFewestRoads() {
    RoadTurns x = net(5, 0, 4, 9, 0, 1, 3, 1, 2, 3, 2, 4, 3);
    dueRoute(x, 0, 4, 9, 0, 4);
    x.close(0, 4, true);
    x.road(0, 3, 4);
    x.road(3, 4, 5);
    dueRoute(x, 0, 4, 9, 0, 3, 4);
    dueRoute(x, 4, 0, 9, 4, 3, 0);
    RoadTurns dear = net(4, 0, 3, DEAREST, 0, 1, DEAREST - 2, 1, 2, 1, 2, 3, 1);
    dueRoute(dear, 0, 3, DEAREST, 0, 3);
  }

  private static void thenTheLeastRow() {
    RoadTurns x = net(8, 0, 1, 1, 1, 6, 1, 6, 7, 1, 0, 2, 1, 2, 3, 1, 3, 7, 1);
    // 1 decides, although 6 is more than 3; and from the other end 3, although 2 is more than 1.
    dueRoute(x, 0, 7, 3, 0, 1, 6, 7);
    dueRoute(x, 7, 0, 3, 7, 3, 2, 0);
    // The first two are alike: the third decides.
    x.road(1, 5, 1);
    x.road(5, 7, 1);
    dueRoute(x, 0, 7, 3, 0, 1, 5, 7);
    // As numbers: 9 is less than 10, and 2 than 10; 100 less than 200, and 255 than 256.
    for (int[] two : new int[][] {{9, 10}, {2, 10}, {99, 100}, {100, 200}, {127, 128}, {255, 256}, {298, 299}}) {
      RoadTurns y = net(300, 0, two[1], 4, two[1], 1, 4, 0, two[0], 4, two[0], 1, 4);
      dueRoute(y, 0, 1, 8, 0, two[0], 1);
      dueRoute(y, 1, 0, 8, 1, two[0], 0);
    }
  }

  private static void nodesMayComeAgain() {
    // To leave node 1 for 2 one must come from 4, and to leave it for 4 one must come from 3.
    RoadTurns x = net(5, 0, 1, 1, 1, 2, 1, 1, 3, 1, 1, 4, 1);
    x.bar(0, 1, 2, true);
    x.bar(3, 1, 2, true);
    x.bar(0, 1, 4, true);
    dueRoute(x, 0, 2, 6, 0, 1, 3, 1, 4, 1, 2);
    due("within(0, 5)", x.within(0, 5), 4);
    due("within(0, 6)", x.within(0, 6), 5);
  }

  /** Node i of a chain of 150 has node 150 + i beside it, where the way must turn round each time. */
  private static void moreNodesInAWayThanThereAre() {
    RoadTurns x = sized(300);
    for (int i = 0; i < 149; i++) x.road(i, i + 1, 1);
    for (int i = 1; i < 149; i++) {
      x.road(i, 150 + i, DEAREST);
      due("bar at " + i, x.bar(i - 1, i, i + 1, true), i);
    }
    due("route(0, 149)", x.route(0, 149), 149 + 296L * DEAREST);
    due("length()", x.length(), 446);
    for (int i = 1; i < 149; i += 11) {
      due("node(" + (3 * i - 2) + ")", x.node(3 * i - 2), i);
      due("node(" + (3 * i - 1) + ")", x.node(3 * i - 1), 150 + i);
      due("node(" + 3 * i + ")", x.node(3 * i), i);
    }
    due("node(445)", x.node(445), 149);
    due("node(446)", x.node(446), -1);
  }

  private static void fromANodeToItself() {
    RoadTurns x = net(3, 0, 1, 1, 1, 2, 1, 2, 0, 1);
    dueRoute(x, 1, 1, 0, 1);
    x.bar(1, 0, 1, true);
    x.close(0, 1, true);
    x.close(1, 2, true);
    dueRoute(x, 1, 1, 0, 1);
    dueRoute(new RoadTurns(), 0, 0, 0, 0);
    dueRoute(sized(300), 299, 299, 0, 299);
  }

  // A call that is refused changes nothing

  /** A chain of five with a closed road and three barred turns, and a way found. */
  private static RoadTurns ordinary() {
    RoadTurns x = chain(5, 6, 7, 8);
    x.road(0, 2, 20);
    x.close(2, 3, true);
    x.bar(0, 1, 2, true);
    x.bar(1, 2, 1, true);
    x.bar(4, 0, 3, true);
    x.route(0, 2);
    return x;
  }

  /** Answers that tell the whole state of the ordinary object but its way, in fewer than 250 calls. */
  private static List<Long> stateOf(RoadTurns x) {
    List<Long> told = new ArrayList<>();
    for (int v : new int[] {-1, 0, 1, 4, 5, 6, 299, 300}) told.add((long) x.within(v, 0));
    for (int a = 0; a < 5; a++) {
      told.add((long) x.within(a, Long.MAX_VALUE));
      for (int b = 0; b < 5; b++) {
        told.add((long) x.cost(a, b));
        told.add(x.route(a, b));
        told.add((long) x.length());
      }
    }
    // A road that is there already, made again as it was: tells how many there are.
    told.add((long) x.road(0, 1, 5));
    for (int turn = 0; turn < 125; turn++) {
      int a = turn / 25, b = turn / 5 % 5, c = turn % 5;
      if (a != b && b != c) told.add((long) x.bar(a, b, c, false));
    }
    return told;
  }

  private record Refusal(String name, long answer, ToLongFunction<RoadTurns> call) {}

  private static Refusal size(int n) {
    return new Refusal("size(" + n + ")", 0, x -> x.size(n) ? 1 : 0);
  }

  private static Refusal road(int a, int b, int cost, int answer) {
    return new Refusal("road(" + a + ", " + b + ", " + cost + ")", answer, x -> x.road(a, b, cost));
  }

  private static Refusal close(int a, int b, boolean closed) {
    return new Refusal("close(" + a + ", " + b + ", " + closed + ")", 0, x -> x.close(a, b, closed) ? 1 : 0);
  }

  private static Refusal bar(int a, int b, int c, boolean barred) {
    return new Refusal("bar(" + a + ", " + b + ", " + c + ", " + barred + ")", -14, x -> x.bar(a, b, c, barred));
  }

  private static Refusal route(int a, int b) {
    return new Refusal("route(" + a + ", " + b + ")", -14, x -> x.route(a, b));
  }

  private static Refusal within(int a, long most) {
    return new Refusal("within(" + a + ", " + most + ")", -14, x -> x.within(a, most));
  }

  private static void dueNoChange(Refusal refused, boolean ofTheWayToo) {
    RoadTurns x = ordinary();
    due(refused.name, refused.call.applyAsLong(x), refused.answer);
    if (ofTheWayToo) dueWay("after " + refused.name, x, wayOf(ordinary()));
    List<Long> got = stateOf(x), want = stateOf(ordinary());
    if (!got.equals(want)) wrong(refused.name + " changed " + want + " to " + got);
  }

  private static void refusedSize() {
    for (int n : new int[] {0, -1, 301, LEAST_INT, MOST_INT}) dueNoChange(size(n), true);
  }

  private static void refusedRoad() {
    int[][] noNodes = {{-1, 0}, {0, -1}, {5, 0}, {0, 5}, {0, 300}, {300, 0}, {LEAST_INT, 1}, {1, MOST_INT},
        {0, 0}, {4, 4}, {5, 5}};
    for (int[] ends : noNodes) dueNoChange(road(ends[0], ends[1], 3, -14), true);
    for (int cost : new int[] {0, -1, DEAREST + 1, LEAST_INT, MOST_INT}) {
      dueNoChange(road(0, 1, cost, -1), true);
      dueNoChange(road(3, 2, cost, -1), true);
      dueNoChange(road(0, 4, cost, -1), true);
    }
  }

  private static void refusedClose() {
    int[][] none = {{0, 3}, {4, 0}, {0, 0}, {-1, 0}, {0, -1}, {5, 0}, {0, 5}, {0, 301}, {LEAST_INT, MOST_INT}};
    for (int[] ends : none) {
      dueNoChange(close(ends[0], ends[1], true), true);
      dueNoChange(close(ends[0], ends[1], false), true);
    }
    dueNoChange(close(0, 1, false), true);
    dueNoChange(close(3, 2, true), true);
  }

  private static void refusedBar() {
    int[][] none = {{-1, 1, 2}, {0, -1, 2}, {0, 1, -1}, {5, 1, 2}, {0, 5, 2}, {0, 1, 5}, {0, 0, 1}, {0, 1, 1}, {2, 2, 2},
        {0, 0, 302}, {0, 1, LEAST_INT}, {MOST_INT, 1, 2}};
    for (int[] turn : none) {
      dueNoChange(bar(turn[0], turn[1], turn[2], true), true);
      dueNoChange(bar(turn[0], turn[1], turn[2], false), true);
    }
  }

  private static void refusedWithin() {
    for (int v : new int[] {-1, 5, 300, LEAST_INT, MOST_INT}) {
      for (long most : new long[] {-1, 0, 9, Long.MAX_VALUE}) dueNoChange(within(v, most), true);
    }
  }

  /** All but the way, of which promise 8 speaks. */
  private static void refusedRoute() {
    for (int v : new int[] {-1, 5, 300, LEAST_INT, MOST_INT}) {
      dueNoChange(route(v, 0), false);
      dueNoChange(route(0, v), false);
      dueNoChange(route(v, v), false);
    }
  }

  private static void refusedRoadWhereFull() {
    RoadTurns x = fullOfRoads();
    x.route(0, 63);
    due("road(63, 64, 1)", x.road(63, 64, 1), -12);
    dueWay("after it", x, 0, 63);
    due("its cost", x.cost(63, 64), 0);
    dueRoute(x, 0, 64, -3);
    for (int a = 1; a < 64; a++) {
      for (int b = 0; b < a; b++) due("cost(" + b + ", " + a + ")", x.cost(b, a), a == 63 && b >= 47 ? 0 : DEAREST);
    }
    due("how many there are", x.road(0, 1, DEAREST), 2000);
  }

  private static void refusedBarWhereFull() {
    RoadTurns x = fullOfTurns();
    x.route(7, 7);
    due("bar(0, 20, 10)", x.bar(0, 20, 10, true), -12);
    dueWay("after it", x, 7);
    x.road(0, 20, 1);
    x.road(20, 10, 1);
    dueRoute(x, 0, 10, 2, 0, 20, 10);
    for (int i = 0; i < 200; i++) due("free number " + (i + 1), x.bar(i % 20, 20, i / 20, false), 199 - i);
  }

  // Promise 1

  private static void oneNode() {
    RoadTurns x = new RoadTurns();
    due("within(0, 0)", x.within(0, 0), 1);
    due("within(0, most)", x.within(0, Long.MAX_VALUE), 1);
    due("within(1, 0)", x.within(1, 0), -14);
    due("within(-1, 0)", x.within(-1, 0), -14);
    due("route(0, 0)", x.route(0, 0), 0);
    due("route(0, 1)", x.route(0, 1), -14);
    due("route(1, 0)", x.route(1, 0), -14);
    due("road(0, 1, 1)", x.road(0, 1, 1), -14);
    due("bar(0, 1, 0)", x.bar(0, 1, 0, true), -14);
  }

  private static void noRoadsAtFirst() {
    RoadTurns x = new RoadTurns();
    due("cost(0, 0)", x.cost(0, 0), 0);
    due("cost(0, 1)", x.cost(0, 1), 0);
    due("close(0, 1)", x.close(0, 1, true), false);
    due("size(2)", x.size(2), true);
    due("the first road", x.road(0, 1, 1), 1);
    due("another object's", new RoadTurns().cost(0, 1), 0);
  }

  // Promise 2

  private static void sizeFrom1To300() {
    for (int n : new int[] {1, 2, 299, 300}) due("size(" + n + ")", new RoadTurns().size(n), true);
    for (int n : new int[] {0, -1, -300, 301, 512, 65537, LEAST_INT, MOST_INT}) {
      due("size(" + n + ")", new RoadTurns().size(n), false);
    }
  }

  private static void sizeNNodes() {
    RoadTurns x = new RoadTurns();
    for (int n : new int[] {300, 1, 2, 299, 5, 5, 300}) {
      due("size(" + n + ")", x.size(n), true);
      due("the last of " + n, x.within(n - 1, 0), 1);
      due("beyond the last of " + n, x.within(n, 0), -14);
    }
  }

  private static void sizeNoRoads() {
    for (int n : new int[] {3, 4, 300}) {
      RoadTurns x = chain(1, 1, 1);
      x.close(1, 2, true);
      due("size(" + n + ")", x.size(n), true);
      for (int v = 0; v < 2; v++) due("cost(" + v + ", " + (v + 1) + ")", x.cost(v, v + 1), 0);
      due("close(0, 1)", x.close(0, 1, true), false);
      due("within(0, ..)", x.within(0, Long.MAX_VALUE), 1);
      due("route(0, 1)", x.route(0, 1), -3);
      due("the first road", x.road(1, 2, 9), 1);
      due("which is open", x.cost(1, 2), 9);
    }
    RoadTurns one = chain(1);
    due("size(1)", one.size(1), true);
    due("size(2)", one.size(2), true);
    due("cost(0, 1)", one.cost(0, 1), 0);
  }

  private static void sizeNoTurnsBarred() {
    RoadTurns x = chain(1, 1);
    x.bar(0, 1, 2, true);
    x.bar(2, 1, 0, true);
    due("size(3)", x.size(3), true);
    x.road(0, 1, 1);
    x.road(1, 2, 1);
    dueRoute(x, 0, 2, 2, 0, 1, 2);
    due("within(2, 2)", x.within(2, 2), 3);
    due("none to free", x.bar(0, 1, 2, false), 0);
    due("the first", x.bar(2, 1, 0, true), 1);
  }

  private static void sizeNoWayFound() {
    RoadTurns x = chain(1, 1);
    x.route(0, 2);
    due("size(3)", x.size(3), true);
    due("length()", x.length(), 0);
    for (int k = -1; k < 4; k++) due("node(" + k + ")", x.node(k), -1);
    x.route(0, 0);
    due("size(1)", x.size(1), true);
    due("length()", x.length(), 0);
    due("node(0)", x.node(0), -1);
  }

  // Promise 3

  private static void roadHasACostFromNowOn() {
    RoadTurns x = sized(300);
    due("new", x.road(299, 298, 5), 1);
    due("dearer, from the other side", x.road(298, 299, DEAREST), 1);
    due("cost(299, 298)", x.cost(299, 298), DEAREST);
    due("cheaper", x.road(298, 299, 1), 1);
    due("cost(299, 298)", x.cost(299, 298), 1);
    dueRoute(x, 298, 299, 1, 298, 299);
  }

  private static void roadIsOpenIfNew() {
    RoadTurns x = sized(3);
    due("close, where there is none yet", x.close(0, 1, true), false);
    due("new", x.road(0, 1, 4), 1);
    due("open", x.cost(0, 1), 4);
    due("close", x.close(0, 1, true), true);
    due("not new", x.road(1, 0, 6), 1);
    due("so it stays closed", x.cost(0, 1), -6);
    due("not new, at the same cost", x.road(0, 1, 6), 1);
    due("stays closed too", x.cost(1, 0), -6);
    dueRoute(x, 0, 1, -3);
    x.size(3);
    due("new after size", x.road(0, 1, 4), 1);
    due("so it is open", x.cost(0, 1), 4);
  }

  private static void roadTellsHowMany() {
    RoadTurns x = sized(4);
    due("first", x.road(0, 1, 1), 1);
    due("second", x.road(2, 3, 1), 2);
    due("the first again", x.road(0, 1, 1), 2);
    due("the first from the other side", x.road(1, 0, 3), 2);
    due("close the second", x.close(2, 3, true), true);
    due("third", x.road(0, 2, 1), 3);
    due("refused", x.road(0, 3, 0), -1);
    due("fourth", x.road(0, 3, 1), 4);
  }

  private static void roadNoSuchNodes() {
    RoadTurns x = sized(5);
    for (int v : new int[] {-1, 5, 299, 300, 305, LEAST_INT, MOST_INT}) {
      due("road(" + v + ", 0, 1)", x.road(v, 0, 1), -14);
      due("road(0, " + v + ", 1)", x.road(0, v, 1), -14);
      due("road(" + v + ", " + v + ", 1)", x.road(v, v, 1), -14);
    }
    due("road(0, 4, 1)", x.road(0, 4, 1), 1);
  }

  private static void roadTheSameNodes() {
    RoadTurns x = sized(5);
    for (int v = 0; v < 5; v++) due("road(" + v + ", " + v + ", 1)", x.road(v, v, 1), -14);
    due("of no such cost either", x.road(3, 3, 0), -14);
  }

  private static void roadNoSuchCost() {
    RoadTurns x = sized(2);
    for (int cost : new int[] {0, -1, -DEAREST, DEAREST + 1, LEAST_INT, MOST_INT}) {
      due("road(0, 1, " + cost + ")", x.road(0, 1, cost), -1);
    }
    due("road(0, 1, 1)", x.road(0, 1, 1), 1);
    for (int cost : new int[] {0, -1, DEAREST + 1}) due("old: road(0, 1, " + cost + ")", x.road(0, 1, cost), -1);
  }

  private static void roadThereAre2000() {
    RoadTurns x = fullOfRoads();
    due("a new one", x.road(64, 63, 1), -12);
    due("no such nodes are told first", x.road(64, 65, 1), -14);
    due("no such cost is told first", x.road(64, 63, 0), -1);
    due("an old one gets a cost", x.road(0, 1, 3), 2000);
    due("this cost", x.cost(1, 0), 3);
    due("the last one too", x.road(63, 46, 4), 2000);
    due("that cost", x.cost(46, 63), 4);
  }

  // Promise 4

  private static void closeWhetherNew() {
    RoadTurns x = chain(3);
    due("open already", x.close(0, 1, false), false);
    due("close", x.close(0, 1, true), true);
    due("closed already", x.close(0, 1, true), false);
    due("from the other side", x.close(1, 0, true), false);
    dueRoute(x, 1, 0, -3);
    due("open", x.close(1, 0, false), true);
    due("open already again", x.close(0, 1, false), false);
    dueRoute(x, 1, 0, 3, 1, 0);
  }

  private static void closeNone() {
    RoadTurns x = chain(3, 4);
    int[][] none = {{0, 2}, {2, 0}, {1, 1}, {-1, 0}, {0, -1}, {3, 2}, {2, 3}, {0, 301}, {301, 0}, {LEAST_INT, 0}, {0, MOST_INT}};
    for (int[] ends : none) {
      due("close no road " + Arrays.toString(ends), x.close(ends[0], ends[1], true), false);
      due("open no road " + Arrays.toString(ends), x.close(ends[0], ends[1], false), false);
    }
  }

  // Promise 5

  private static void costOfARoad() {
    RoadTurns x = net(300, 0, 299, 1, 299, 298, DEAREST);
    due("cost(0, 299)", x.cost(0, 299), 1);
    due("cost(299, 0)", x.cost(299, 0), 1);
    due("cost(298, 299)", x.cost(298, 299), DEAREST);
  }

  private static void costOfNone() {
    RoadTurns x = chain(3, 4);
    int[][] none = {{0, 2}, {2, 0}, {0, 0}, {2, 2}, {-1, 0}, {0, -1}, {3, 2}, {2, 3}, {0, 301}, {301, 0},
        {LEAST_INT, 0}, {0, MOST_INT}};
    for (int[] ends : none) due("cost of no road " + Arrays.toString(ends), x.cost(ends[0], ends[1]), 0);
  }

  private static void costOfAClosedRoad() {
    RoadTurns x = chain(1, DEAREST);
    x.close(0, 1, true);
    x.close(1, 2, true);
    due("cost(0, 1)", x.cost(0, 1), -1);
    due("cost(1, 0)", x.cost(1, 0), -1);
    due("cost(2, 1)", x.cost(2, 1), -DEAREST);
    x.close(1, 2, false);
    due("opened again", x.cost(2, 1), DEAREST);
  }

  // Promise 6

  private static void barHowManyAre() {
    RoadTurns x = chain(1, 1, 1);
    due("none, freed", x.bar(0, 1, 2, false), 0);
    due("first", x.bar(0, 1, 2, true), 1);
    due("first again", x.bar(0, 1, 2, true), 1);
    due("against it", x.bar(2, 1, 0, true), 2);
    due("over no road", x.bar(0, 3, 1, true), 3);
    due("free", x.bar(0, 1, 2, false), 2);
    due("free again", x.bar(0, 1, 2, false), 2);
    due("free the last but one", x.bar(0, 3, 1, false), 1);
    due("free the last", x.bar(2, 1, 0, false), 0);
    dueRoute(x, 0, 2, 2, 0, 1, 2);
  }

  /** Turns that have the same nodes in another order, or the greatest nodes, are turns apart. */
  private static void barATurn() {
    int[][] turns = {{0, 1, 2}, {2, 1, 0}, {1, 0, 2}, {1, 2, 0}, {0, 1, 0}, {1, 0, 1}, {0, 1, 299}, {0, 2, 0},
        {299, 0, 299}, {298, 299, 298}, {299, 298, 299}};
    RoadTurns x = sized(300);
    int count = 0;
    for (int[] t : turns) {
      count++;
      due("bar " + Arrays.toString(t), x.bar(t[0], t[1], t[2], true), count);
    }
    for (int[] t : turns) {
      count--;
      due("free " + Arrays.toString(t), x.bar(t[0], t[1], t[2], false), count);
    }
  }

  private static void barNoSuchNodes() {
    RoadTurns x = sized(5);
    for (int v : new int[] {-1, 5, 300, LEAST_INT, MOST_INT}) {
      for (boolean barred : new boolean[] {true, false}) {
        due("bar(" + v + ", 1, 2, " + barred + ")", x.bar(v, 1, 2, barred), -14);
        due("bar(0, " + v + ", 2, " + barred + ")", x.bar(0, v, 2, barred), -14);
        due("bar(0, 1, " + v + ", " + barred + ")", x.bar(0, 1, v, barred), -14);
      }
    }
    due("bar(4, 0, 4)", x.bar(4, 0, 4, true), 1);
  }

  private static void barTheSameNodes() {
    RoadTurns x = sized(5);
    for (boolean barred : new boolean[] {true, false}) {
      due("bar(0, 0, 1, " + barred + ")", x.bar(0, 0, 1, barred), -14);
      due("bar(1, 0, 0, " + barred + ")", x.bar(1, 0, 0, barred), -14);
      due("bar(4, 4, 4, " + barred + ")", x.bar(4, 4, 4, barred), -14);
    }
    due("bar(0, 1, 0), which do not follow one another", x.bar(0, 1, 0, true), 1);
  }

  private static void barThereAre200() {
    RoadTurns x = fullOfTurns();
    due("a new one", x.bar(19, 20, 19, true), -12);
    due("another new one", x.bar(20, 0, 20, true), -12);
    due("no such nodes are told first", x.bar(0, 21, 0, true), -14);
    due("the same nodes are told first", x.bar(0, 0, 1, true), -14);
    due("one of them again", x.bar(3, 20, 3, true), 200);
    due("the last of them again", x.bar(19, 20, 9, true), 200);
    due("none of them, freed", x.bar(19, 20, 19, false), 200);
    due("the last of them, freed", x.bar(19, 20, 9, false), 199);
  }

  // Promise 7

  private static void routeNoSuchNodes() {
    RoadTurns x = chain(1, 1);
    for (int v : new int[] {-1, 3, 300, LEAST_INT, MOST_INT}) {
      due("route(" + v + ", 0)", x.route(v, 0), -14);
      due("route(0, " + v + ")", x.route(0, v), -14);
      due("route(" + v + ", " + v + ")", x.route(v, v), -14);
    }
    due("route(0, 2)", x.route(0, 2), 2);
  }

  private static void routeThereIsNone() {
    RoadTurns x = sized(300);
    due("no roads", x.route(0, 299), -3);
    x.road(0, 1, 1);
    x.road(298, 299, 1);
    due("roads elsewhere", x.route(0, 299), -3);
    x.road(1, 298, 1);
    due("joined", x.route(0, 299), 3);
    x.close(1, 298, true);
    due("closed", x.route(0, 299), -3);
    x.close(1, 298, false);
    x.bar(0, 1, 298, true);
    due("barred", x.route(0, 299), -3);
    due("not barred back", x.route(299, 0), 3);
  }

  // Promise 8

  private static void lengthOfTheLatest() {
    RoadTurns x = chain(1, 1, 1);
    x.route(0, 3);
    due("the longest", x.length(), 4);
    x.route(2, 1);
    due("a shorter one", x.length(), 2);
    x.route(2, 2);
    due("one node", x.length(), 1);
    x.route(3, 1);
    due("a longer one", x.length(), 3);
    x.road(1, 3, 1);
    x.close(1, 2, true);
    x.bar(3, 2, 1, true);
    x.within(0, 1);
    due("after calls that are no route()", x.length(), 3);
  }

  private static void lengthFoundNone() {
    RoadTurns x = net(4, 0, 1, 1);
    x.route(0, 1);
    due("route(0, 2)", x.route(0, 2), -3);
    due("length() after -3", x.length(), 0);
    for (int[] ends : new int[][] {{0, 4}, {4, 0}, {-1, 0}, {0, -1}, {-1, -1}, {4, 4}}) {
      x.route(0, 1);
      due("length()", x.length(), 2);
      due("route" + Arrays.toString(ends), x.route(ends[0], ends[1]), -14);
      due("length() after -14", x.length(), 0);
    }
  }

  private static void lengthThereWasNone() {
    due("length() of a new object", new RoadTurns().length(), 0);
    RoadTurns x = chain(1, 1);
    x.within(0, 9);
    due("length() before any route()", x.length(), 0);
    x.route(0, 1);
    x.size(3);
    due("length() after size", x.length(), 0);
  }

  // Promise 9

  private static void nodeOfTheWay() {
    RoadTurns x = net(300, 299, 0, 1, 0, 7, 1);
    x.route(299, 7);
    due("node(0)", x.node(0), 299);
    due("node(1)", x.node(1), 0);
    due("node(2)", x.node(2), 7);
  }

  private static void nodeThereIsNone() {
    RoadTurns x = chain(1, 1, 1);
    for (int k : new int[] {-1, 0, 1, LEAST_INT, MOST_INT}) due("no way: node(" + k + ")", x.node(k), -1);
    x.route(3, 0);
    for (int k : new int[] {-1, 4, 5, 300, 4000, 4001, LEAST_INT, MOST_INT}) due("four nodes: node(" + k + ")", x.node(k), -1);
    x.route(2, 1);
    due("the last of two", x.node(1), 1);
    due("beyond it, where an older way went on", x.node(2), -1);
    x.route(0, 4);
    due("refused: node(0)", x.node(0), -1);
    x.route(3, 0);
    x.close(1, 0, true);
    x.route(3, 0);
    due("found none: node(0)", x.node(0), -1);
  }

  // Promise 10

  private static void withinAtMostSoMuch() {
    RoadTurns x = chain(2, 3, DEAREST);
    due("one less than a road", x.within(0, 1), 1);
    due("a road", x.within(0, 2), 2);
    due("one less than two", x.within(0, 4), 2);
    due("two", x.within(0, 5), 3);
    due("one less than three", x.within(0, DEAREST + 4L), 3);
    due("three", x.within(0, DEAREST + 5L), 4);
    due("from the middle", x.within(1, 3), 3);
    // Both are reached on two ways, one of them too dear.
    RoadTurns ring = net(4, 0, 1, 1, 1, 2, 1, 2, 3, 1, 3, 0, 100);
    due("each node once", ring.within(0, 1000), 4);
    due("by the cheaper way", ring.within(0, 3), 4);
    due("which is just too dear", ring.within(0, 2), 3);
  }

  /** Bounds beyond 2^31 and 2^32, and those that a multiplication would wrap around. */
  private static void withinLargeBounds() {
    RoadTurns x = chain(DEAREST, DEAREST, DEAREST, DEAREST, DEAREST);
    due("just below 3 roads", x.within(0, 2999999999L), 3);
    due("3 roads", x.within(0, 3000000000L), 4);
    due("just below 5 roads", x.within(0, 4999999999L), 5);
    due("5 roads", x.within(0, 5000000000L), 6);
    for (int bits = 33; bits < 63; bits++) due("2 to the " + bits, x.within(0, 1L << bits), 6);
    due("the greatest", x.within(0, Long.MAX_VALUE), 6);
    due("2 to the 32", x.within(0, 1L << 32), 5);
  }

  private static void withinWithItself() {
    RoadTurns x = chain(1, 1);
    due("0", x.within(1, 0), 1);
    due("1", x.within(1, 1), 3);
    due("2, back at itself", x.within(1, 2), 3);
    due("no roads", sized(300).within(299, Long.MAX_VALUE), 1);
    for (long most : new long[] {-1, -2, -DEAREST, -(1L << 32), -(1L << 52), Long.MIN_VALUE + 1, Long.MIN_VALUE}) {
      due("within(1, " + most + ")", x.within(1, most), 0);
    }
  }

  private static void withinNoSuchNode() {
    RoadTurns x = chain(1, 1);
    for (int v : new int[] {-1, 3, 300, LEAST_INT, MOST_INT}) {
      for (long most : new long[] {Long.MIN_VALUE, -1, 0, 1, Long.MAX_VALUE}) {
        due("within(" + v + ", " + most + ")", x.within(v, most), -14);
      }
    }
    due("the last node", x.within(2, 0), 1);
  }

  private static void testTerms() {
    test("An object is used for at most 512 calls", BoundaryTest::usedFor512Calls);
    test("There are n NODES 0 .. n - 1 (1 .. 300", BoundaryTest::nodesFromZero);
    test("Between two unlike nodes there may be a ROAD", BoundaryTest::unlikeNodes);
    test("to be gone both ways", BoundaryTest::goneBothWays);
    test("with a COST from 1 to 1000000000", BoundaryTest::costsFromOne);
    test("at most 2000 roads", BoundaryTest::atMost2000Roads);
    test("joined by an open road", BoundaryTest::joinedByOpenRoads);
    test("its cost is the sum of those of its roads", BoundaryTest::costIsTheSum);
    test("the first and the last may be the same", BoundaryTest::firstAndLastMayBeTheSame);
    test("may be BARRED: no way has it", BoundaryTest::noWayHasABarredTurn);
    test("At most 200 are barred", BoundaryTest::atMost200Barred);
    test("The BEST way from node to node has the least cost", BoundaryTest::leastCostFirst);
    test("of these the fewest roads", BoundaryTest::thenFewestRoads);
    test("of these the least row of nodes (the first unlike node decides)", BoundaryTest::thenTheLeastRow);
    test("Nodes may come again in it", BoundaryTest::nodesMayComeAgain);
    test("Nodes may come again in it: more than there are", BoundaryTest::moreNodesInAWayThanThereAre);
    test("From a node to itself it is that node alone, cost 0", BoundaryTest::fromANodeToItself);
  }

  private static void testRefusedCalls() {
    test("A call that is refused changes nothing: size", BoundaryTest::refusedSize);
    test("A call that is refused changes nothing: road", BoundaryTest::refusedRoad);
    test("A call that is refused changes nothing: road, 2000", BoundaryTest::refusedRoadWhereFull);
    test("A call that is refused changes nothing: close", BoundaryTest::refusedClose);
    test("A call that is refused changes nothing: bar", BoundaryTest::refusedBar);
    test("A call that is refused changes nothing: bar, 200", BoundaryTest::refusedBarWhereFull);
    test("A call that is refused changes nothing: route", BoundaryTest::refusedRoute);
    test("A call that is refused changes nothing: within", BoundaryTest::refusedWithin);
  }

  private static void testPromises1To5() {
    test("1: One node", BoundaryTest::oneNode);
    test("1: no roads", BoundaryTest::noRoadsAtFirst);
    test("2: n nodes", BoundaryTest::sizeNNodes);
    test("2: no roads", BoundaryTest::sizeNoRoads);
    test("2: no turns barred", BoundaryTest::sizeNoTurnsBarred);
    test("2: no way found", BoundaryTest::sizeNoWayFound);
    test("2: false if n is not 1 .. 300", BoundaryTest::sizeFrom1To300);
    test("3: The road between two nodes has a cost from now on", BoundaryTest::roadHasACostFromNowOn);
    test("3: is open if it is new", BoundaryTest::roadIsOpenIfNew);
    test("3: how many roads there are", BoundaryTest::roadTellsHowMany);
    test("3: -14 no such nodes", BoundaryTest::roadNoSuchNodes);
    test("3: or the same", BoundaryTest::roadTheSameNodes);
    test("3: -1 no such cost", BoundaryTest::roadNoSuchCost);
    test("3: -12 there are 2000", BoundaryTest::roadThereAre2000);
    test("4: whether that is new", BoundaryTest::closeWhetherNew);
    test("4: false too if there is none", BoundaryTest::closeNone);
    test("5: Its cost", BoundaryTest::costOfARoad);
    test("5: 0 if there is none", BoundaryTest::costOfNone);
    test("5: below 0 (the cost times -1) if it is closed", BoundaryTest::costOfAClosedRoad);
  }

  private static void testPromises6To10() {
    test("6: A turn is barred, or not, from now on", BoundaryTest::barATurn);
    test("6: how many are", BoundaryTest::barHowManyAre);
    test("6: -14 no such nodes", BoundaryTest::barNoSuchNodes);
    test("6: or two that follow one another are the same", BoundaryTest::barTheSameNodes);
    test("6: -12 there are 200", BoundaryTest::barThereAre200);
    test("7: -14 no such nodes", BoundaryTest::routeNoSuchNodes);
    test("7: -3 there is none", BoundaryTest::routeThereIsNone);
    test("8: How many nodes the way has that the latest route() found", BoundaryTest::lengthOfTheLatest);
    test("8: 0 if it found none", BoundaryTest::lengthFoundNone);
    test("8: or there was none", BoundaryTest::lengthThereWasNone);
    test("9: Node k of it (0 the first)", BoundaryTest::nodeOfTheWay);
    test("9: -1 if there is none", BoundaryTest::nodeThereIsNone);
    test("10: ways that cost at most so much", BoundaryTest::withinAtMostSoMuch);
    test("10: ways that cost at most so much: large bounds", BoundaryTest::withinLargeBounds);
    test("10: (with itself, for 0 or more)", BoundaryTest::withinWithItself);
    test("10: -14", BoundaryTest::withinNoSuchNode);
  }

  public static void main(String[] args) {
    testTerms();
    testRefusedCalls();
    testPromises1To5();
    testPromises6To10();
    String all = "all " + sentences + " sentences hold";
    System.out.println(broken == 0 ? all : broken + " of " + sentences + " sentences do not hold");
    if (broken != 0) System.exit(1);
  }
}
