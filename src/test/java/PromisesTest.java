import java.util.Arrays;

/** Each promise of the document by hand: ordinary inputs, the edges that it names, and wrong inputs. */
public final class PromisesTest {
  private static int wrong = 0;

  private static void due(String what, long got, long want) {
    if (got != want) {
      wrong++;
      System.out.println(what + " answered " + got + ", due is " + want);
    }
  }

  private static void due(String what, boolean got, boolean want) {
    due(what, got ? 1L : 0L, want ? 1L : 0L);
  }

  private static void dueWay(String what, RoadTurns x, int... want) {
    int[] got = new int[Math.max(0, x.length())];
    for (int k = 0; k < got.length; k++) {
      got[k] = x.node(k);
    }
    if (!Arrays.equals(got, want)) {
      wrong++;
      System.out.println(what + " found " + Arrays.toString(got) + ", due is " + Arrays.toString(want));
    }
    due(what + ": node(-1)", x.node(-1), -1);
    due(what + ": node(length)", x.node(want.length), -1);
  }

  private static RoadTurns sized(int n) {
    RoadTurns x = new RoadTurns();
    due("size(" + n + ")", x.size(n), true);
    return x;
  }

  /** Roads 0-1, 1-2, .. with these costs. */
  private static RoadTurns chain(int... costs) {
    RoadTurns x = sized(costs.length + 1);
    for (int i = 0; i < costs.length; i++) {
      due("chain road " + i, x.road(i, i + 1, costs[i]), i + 1);
    }
    return x;
  }

  private static void promise1NewObject() {
    RoadTurns x = new RoadTurns();
    due("1: length()", x.length(), 0);
    due("1: node(0)", x.node(0), -1);
    due("1: route(0, 0)", x.route(0, 0), 0);
    dueWay("1: route(0, 0)", x, 0);
    due("1: route(0, 1)", x.route(0, 1), -14);
    due("1: within(0, 0)", x.within(0, 0), 1);
    due("1: within(0, max)", x.within(0, Long.MAX_VALUE), 1);
    due("1: within(1, 0)", x.within(1, 0), -14);
    due("1: cost(0, 0)", x.cost(0, 0), 0);
    due("1: road(0, 1, 1)", x.road(0, 1, 1), -14);
    due("1: bar(0, 1, 0)", x.bar(0, 1, 0, true), -14);
    RoadTurns y = sized(2);
    due("1: first road", y.road(0, 1, 1), 1);
    due("1: objects share nothing", x.cost(0, 1), 0);
  }

  private static void promise2Size() {
    RoadTurns x = chain(1, 1, 1);
    due("2: bar", x.bar(0, 1, 2, true), 1);
    due("2: route(0, 1)", x.route(0, 1), 1);
    for (int n : new int[] {0, -1, 301, Integer.MIN_VALUE, Integer.MAX_VALUE}) {
      due("2: size(" + n + ")", x.size(n), false);
      dueWay("2: the way after size(" + n + ")", x, 0, 1);
      due("2: the roads after size(" + n + ")", x.road(0, 1, 1), 3);
      due("2: the turns after size(" + n + ")", x.bar(0, 1, 2, true), 1);
      due("2: the nodes after size(" + n + ")", x.within(4, 0), -14);
    }
    due("2: size(4) again", x.size(4), true);
    dueWay("2: no way after size", x);
    due("2: no road after size", x.cost(0, 1), 0);
    due("2: one road after size", x.road(1, 2, 5), 1);
    due("2: two roads after size", x.road(0, 1, 6), 2);
    due("2: no turn after size", x.route(0, 2), 11);
    due("2: one turn after size", x.bar(2, 1, 0, true), 1);
    due("2: size(1)", x.size(1), true);
    due("2: node 0 of 1", x.within(0, 0), 1);
    due("2: node 1 of 1", x.within(1, 0), -14);
    due("2: size(300)", x.size(300), true);
    due("2: node 299 of 300", x.within(299, 0), 1);
    due("2: node 300 of 300", x.within(300, 0), -14);
  }

  private static void promise3Road() {
    RoadTurns x = sized(4);
    due("3: new", x.road(2, 1, 7), 1);
    due("3: both ways", x.cost(1, 2), 7);
    due("3: the same road from the other side", x.road(1, 2, 9), 1);
    due("3: its new cost", x.cost(2, 1), 9);
    due("3: a second", x.road(3, 0, 1), 2);
    due("3: the least cost", x.cost(0, 3), 1);
    due("3: the most cost", x.road(0, 3, 1000000000), 2);
    due("3: the most cost told", x.cost(3, 0), 1000000000);
    int[][] noNodes = {{-1, 0}, {0, -1}, {4, 0}, {0, 4}, {2, 2}, {Integer.MIN_VALUE, 0}, {1, Integer.MAX_VALUE}, {300, 300}};
    for (int[] ends : noNodes) {
      due("3: no nodes " + Arrays.toString(ends), x.road(ends[0], ends[1], 1), -14);
      due("3: nodes come before costs", x.road(ends[0], ends[1], 0), -14);
    }
    for (int cost : new int[] {0, -1, 1000000001, Integer.MIN_VALUE, Integer.MAX_VALUE}) {
      due("3: cost " + cost, x.road(1, 2, cost), -1);
      due("3: cost " + cost + " on no road", x.road(0, 1, cost), -1);
    }
    due("3: refused, nothing changed", x.cost(1, 2), 9);
    due("3: refused, nothing made", x.cost(0, 1), 0);
    due("3: close", x.close(1, 2, true), true);
    due("3: a closed road gets a cost", x.road(2, 1, 4), 2);
    due("3: and stays closed", x.cost(1, 2), -4);
    due("3: so no way has it", x.route(1, 2), -3);
    due("3: open", x.close(1, 2, false), true);
    due("3: with its new cost", x.route(1, 2), 4);
  }

  /** More calls than the document promises for one object, but its limit shows no sooner. */
  private static void promise3MostRoads() {
    RoadTurns x = sized(300);
    int made = 0;
    for (int a = 63; a > 0; a--) {
      for (int b = 0; b < a && made < 2000; b++) {
        made++;
        due("3: road " + made, x.road(a, b, 1000000000), made);
      }
    }
    due("3: 2000 roads", made, 2000);
    due("3: one more", x.road(298, 299, 1), -12);
    due("3: is not made", x.cost(298, 299), 0);
    due("3: cost before room", x.road(298, 299, 0), -1);
    due("3: nodes before room", x.road(299, 299, 1), -14);
    due("3: an old one may change", x.road(63, 0, 999999999), 2000);
    due("3: all are searched", x.within(0, Long.MAX_VALUE), 64);
    due("3: route(0, 63)", x.route(0, 63), 999999999);
  }

  private static void promise4Close() {
    RoadTurns x = chain(3, 5);
    due("4: open already", x.close(0, 1, false), false);
    due("4: close", x.close(0, 1, true), true);
    due("4: closed already, from the other side", x.close(1, 0, true), false);
    due("4: no way over it", x.route(0, 1), -3);
    due("4: no way back over it", x.route(1, 0), -3);
    due("4: not within reach", x.within(1, 100), 2);
    due("4: the other is open", x.route(1, 2), 5);
    due("4: open from the other side", x.close(1, 0, false), true);
    due("4: open already again", x.close(0, 1, false), false);
    due("4: a way over it", x.route(0, 2), 8);
    int[][] none = {{0, 2}, {1, 1}, {-1, 0}, {0, -1}, {3, 0}, {0, 3}, {0, 301}, {Integer.MIN_VALUE, Integer.MAX_VALUE}};
    for (int[] ends : none) {
      due("4: close no road " + Arrays.toString(ends), x.close(ends[0], ends[1], true), false);
      due("4: open no road " + Arrays.toString(ends), x.close(ends[0], ends[1], false), false);
    }
    due("4: a new one is open all the same", x.road(0, 2, 2), 3);
    due("4: and can be gone", x.route(0, 2), 2);
  }

  private static void promise5Cost() {
    RoadTurns x = chain(1, 1000000000);
    due("5: there", x.cost(0, 1), 1);
    due("5: back", x.cost(1, 0), 1);
    due("5: most", x.cost(1, 2), 1000000000);
    due("5: close", x.close(2, 1, true), true);
    due("5: closed", x.cost(1, 2), -1000000000);
    due("5: closed, back", x.cost(2, 1), -1000000000);
    due("5: open", x.close(1, 2, false), true);
    due("5: opened", x.cost(2, 1), 1000000000);
    int[][] none = {{0, 2}, {2, 0}, {1, 1}, {-1, 0}, {0, -1}, {3, 0}, {0, 3}, {0, 301}, {Integer.MIN_VALUE, Integer.MAX_VALUE}};
    for (int[] ends : none) {
      due("5: no road " + Arrays.toString(ends), x.cost(ends[0], ends[1]), 0);
    }
  }

  private static void promise6Bar() {
    RoadTurns x = chain(1, 1, 1);
    due("6: bar", x.bar(0, 1, 2, true), 1);
    due("6: again", x.bar(0, 1, 2, true), 1);
    due("6: back to the first", x.bar(2, 3, 2, true), 2);
    due("6: over no road", x.bar(0, 3, 1, true), 3);
    due("6: one that is not barred", x.bar(2, 1, 0, false), 3);
    due("6: no way has it", x.route(0, 2), -3);
    due("6: the way back may", x.route(2, 0), 2);
    due("6: free", x.bar(0, 1, 2, false), 2);
    due("6: free again", x.bar(0, 1, 2, false), 2);
    due("6: now a way may", x.route(0, 2), 2);
    int[][] noTurns = {{-1, 1, 2}, {0, -1, 2}, {0, 1, -1}, {4, 1, 2}, {0, 4, 2}, {0, 1, 4}, {0, 0, 1}, {0, 1, 1}, {2, 2, 2},
        {Integer.MAX_VALUE, 1, 2}, {0, Integer.MIN_VALUE, 2}, {0, 1, 300}};
    for (int[] t : noTurns) {
      due("6: bar no turn " + Arrays.toString(t), x.bar(t[0], t[1], t[2], true), -14);
      due("6: free no turn " + Arrays.toString(t), x.bar(t[0], t[1], t[2], false), -14);
    }
    due("6: refused, nothing changed", x.bar(0, 1, 3, false), 2);
    due("6: bars outlive closed roads", x.close(2, 3, true), true);
    due("6: and opened ones", x.close(2, 3, false), true);
    due("6: still barred", x.bar(2, 3, 2, true), 2);
  }

  private static void promise6MostTurns() {
    RoadTurns x = sized(300);
    for (int i = 0; i < 200; i++) {
      int a = (i * 37) % 200;
      due("6: turn " + i, x.bar(a, 299, a, true), i + 1);
    }
    due("6: one more", x.bar(0, 299, 1, true), -12);
    due("6: no node before room", x.bar(0, 300, 1, true), -14);
    due("6: one of them again", x.bar(5, 299, 5, true), 200);
    due("6: the one more is not barred", x.bar(0, 299, 1, false), 200);
    due("6: free one", x.bar(5, 299, 5, false), 199);
    due("6: now there is room", x.bar(0, 299, 1, true), 200);
    due("6: for one", x.bar(5, 299, 5, true), -12);
    for (int a = 0; a < 200; a++) {
      due("6: free " + a, x.bar(a, 299, a, false), a < 5 ? 199 - a : a == 5 ? 195 : 200 - a);
    }
  }

  /** Turns at the greatest nodes, which are the first to be mixed up where turns are packed. */
  private static void promise6UnlikeTurns() {
    int[][] turns = {{0, 1, 299}, {0, 2, 0}, {0, 299, 1}, {1, 0, 1}, {298, 299, 298}, {299, 298, 299}, {299, 0, 299}};
    RoadTurns x = sized(300);
    for (int i = 0; i < turns.length; i++) {
      due("6: unlike turn " + i, x.bar(turns[i][0], turns[i][1], turns[i][2], true), i + 1);
    }
    for (int i = 0; i < turns.length; i++) {
      due("6: free unlike turn " + i, x.bar(turns[i][0], turns[i][1], turns[i][2], false), turns.length - 1 - i);
    }
  }

  private static void promise7Route() {
    RoadTurns x = sized(6);
    x.road(0, 5, 10);
    x.road(0, 4, 5);
    x.road(4, 5, 5);
    due("7: fewest roads of the same cost", x.route(0, 5), 10);
    dueWay("7: fewest roads of the same cost", x, 0, 5);
    x.road(0, 5, 11);
    x.road(0, 3, 4);
    x.road(3, 5, 6);
    due("7: least row", x.route(0, 5), 10);
    dueWay("7: least row", x, 0, 3, 5);
    due("7: least row back", x.route(5, 0), 10);
    dueWay("7: least row back", x, 5, 3, 0);
    x.road(3, 5, 5);
    due("7: least cost", x.route(0, 5), 9);
    due("7: to itself", x.route(5, 5), 0);
    dueWay("7: to itself", x, 5);
    due("7: none", x.route(0, 1), -3);
    dueWay("7: none", x);
    for (int v : new int[] {-1, 6, 300, Integer.MIN_VALUE, Integer.MAX_VALUE}) {
      due("7: from " + v, x.route(v, 0), -14);
      due("7: to " + v, x.route(0, v), -14);
      due("7: from it to itself " + v, x.route(v, v), -14);
    }
  }

  /** Least rows that differ early although the later nodes, or the parts' costs, say otherwise. */
  private static void promise7LeastRow() {
    RoadTurns x = sized(8);
    x.road(0, 1, 3);
    x.road(1, 6, 1);
    x.road(6, 7, 1);
    x.road(0, 2, 1);
    x.road(2, 3, 1);
    x.road(3, 7, 3);
    due("7: the first unlike node decides", x.route(0, 7), 5);
    dueWay("7: the first unlike node decides", x, 0, 1, 6, 7);
    due("7: and back", x.route(7, 0), 5);
    dueWay("7: and back", x, 7, 3, 2, 0);
    x.bar(0, 1, 6, true);
    due("7: not a barred turn", x.route(0, 7), 5);
    dueWay("7: not a barred turn", x, 0, 2, 3, 7);
    due("7: a turn is barred one way", x.route(7, 0), 5);
    x.bar(7, 3, 2, true);
    due("7: the other way", x.route(7, 0), 5);
    dueWay("7: the other way", x, 7, 6, 1, 0);
  }

  private static void promise7Detours() {
    RoadTurns x = sized(5);
    x.road(0, 1, 1);
    x.road(1, 2, 1);
    x.road(1, 3, 5);
    x.road(1, 4, 4);
    x.bar(0, 1, 2, true);
    due("7: turns round", x.route(0, 2), 10);
    dueWay("7: turns round", x, 0, 1, 4, 1, 2);
    x.bar(1, 4, 1, true);
    due("7: turns round elsewhere", x.route(0, 2), 12);
    dueWay("7: turns round elsewhere", x, 0, 1, 3, 1, 2);
    x.bar(1, 3, 1, true);
    due("7: nor at the beginning", x.route(0, 2), -3);
    x.bar(1, 0, 1, true);
    due("7: the first road is no turn", x.route(1, 2), 1);
    due("7: what is barred must be met", x.route(0, 4), 5);
    x.road(3, 4, 100);
    due("7: a long way round", x.route(0, 2), 111);
    dueWay("7: of two rounds the least", x, 0, 1, 3, 4, 1, 2);
  }

  private static void promise7LongWays() {
    int[] costs = new int[299];
    Arrays.fill(costs, 1000000000);
    RoadTurns x = chain(costs);
    due("7: end to end", x.route(299, 0), 299000000000L);
    due("8: end to end", x.length(), 300);
    due("9: end to end", x.node(1), 298);
    for (int v = 1; v < 200; v++) {
      due("6: turn at " + v, x.bar(v - 1, v, v + 1, true), v);
    }
    due("7: barred there", x.route(0, 2), -3);
    due("7: free back", x.route(299, 0), 299000000000L);
    due("10: barred there", x.within(0, Long.MAX_VALUE), 2);
    due("10: free back", x.within(299, 299000000000L), 300);
    due("10: one less", x.within(299, 298999999999L), 299);
  }

  private static void promises8And9TheWay() {
    RoadTurns x = chain(2, 2);
    dueWay("8: no route yet", x);
    x.route(0, 2);
    dueWay("8: the way", x, 0, 1, 2);
    due("9: node(max)", x.node(Integer.MAX_VALUE), -1);
    due("9: node(min)", x.node(Integer.MIN_VALUE), -1);
    x.road(0, 2, 1);
    dueWay("8: kept after road", x, 0, 1, 2);
    x.close(0, 1, true);
    dueWay("8: kept after close", x, 0, 1, 2);
    x.bar(0, 1, 2, true);
    dueWay("8: kept after bar", x, 0, 1, 2);
    x.within(1, 9);
    x.within(7, 9);
    dueWay("8: kept after within", x, 0, 1, 2);
    x.route(2, 1);
    dueWay("8: the latest", x, 2, 1);
    x.close(1, 2, true);
    x.route(2, 1);
    dueWay("8: the latest found none", x);
    x.route(0, 0);
    dueWay("8: to itself", x, 0);
    x.route(0, 3);
    dueWay("8: the latest was refused", x);
  }

  private static void promise10Within() {
    RoadTurns x = chain(2, 3, 1000000000);
    due("10: less than 0", x.within(1, -1), 0);
    due("10: least", x.within(1, Long.MIN_VALUE), 0);
    due("10: itself", x.within(1, 0), 1);
    due("10: just too little", x.within(1, 1), 1);
    due("10: just enough", x.within(1, 2), 2);
    due("10: both sides", x.within(1, 3), 3);
    due("10: far", x.within(0, 1000000005L), 4);
    due("10: nearly far", x.within(0, 1000000004L), 3);
    due("10: all", x.within(3, Long.MAX_VALUE), 4);
    for (int v : new int[] {-1, 4, 300, Integer.MIN_VALUE, Integer.MAX_VALUE}) {
      due("10: from " + v, x.within(v, 5), -14);
      due("10: from " + v + " below 0", x.within(v, -1), -14);
    }
    x.bar(0, 1, 2, true);
    due("10: a barred turn", x.within(0, Long.MAX_VALUE), 2);
    due("10: not barred from its middle", x.within(1, 3), 3);
    due("10: not barred back", x.within(2, 5), 3);
    x.size(4);
    x.road(0, 1, 1);
    x.road(1, 2, 1);
    x.road(1, 3, 5);
    x.bar(0, 1, 2, true);
    due("10: round, not yet", x.within(0, 11), 3);
    due("10: round", x.within(0, 12), 4);
  }

  public static void main(String[] args) {
    promise1NewObject();
    promise2Size();
    promise3Road();
    promise3MostRoads();
    promise4Close();
    promise5Cost();
    promise6Bar();
    promise6MostTurns();
    promise6UnlikeTurns();
    promise7Route();
    promise7LeastRow();
    promise7Detours();
    promise7LongWays();
    promises8And9TheWay();
    promise10Within();
    System.out.println(wrong == 0 ? "all answers are as due" : wrong + " answers are not as due");
    if (wrong != 0) System.exit(1);
  }
}
