/** The document's sentences on names that are seen, on costs, placing, improving and the least cost. */
public final class PlacementTest {
  private final Check check = new Check();

  public static void main(String[] args) {
    PlacementTest test = new PlacementTest();
    test.noneAtFirst();
    test.inItAndAllGreaterOnes();
    test.notBeforeItsFeature();
    test.strongerNames();
    test.namesThatAreNotSeenAreInNobodysWay();
    test.symbolsOfAllOthers();
    test.chainOfNames();
    test.costs();
    test.tastes();
    test.costOfFullMap();
    test.placeEmptyLockedAndFull();
    test.placeByOwnCostAlone();
    test.placeWithLockedOnes();
    test.theLastCandidateIsTheBest();
    test.improveCountsTrials();
    test.improveSkipsWhatItHas();
    test.improveLooksAtAll();
    test.improveStopsAmid();
    test.improveLocked();
    test.leastCostWithin3000();
    test.leastCostAbove3000();
    test.leastCostOfLocked();
    test.leastCostIsTheLeast();
    test.check.end("PlacementTest");
  }

  private void dueFroms(String what, Cartouche map, int... froms) {
    for (int i = 0; i < froms.length; i++) {
      check.due("17 " + what + ", " + i, map.nameFrom(i), froms[i]);
    }
  }

  // ---- names that are seen

  private void noneAtFirst() {
    Cartouche map = new Cartouche();
    map.addPoint(500, 500, 9, 0, 1, 1);
    map.addLine(0, 0, 9, 1, 1);
    map.addVertex(1, 900, 0);
    map.addArea(0, 0, 999, 999, 9, 1, 1);
    for (int i = 0; i < 3; i++) {
      int feature = i;
      check.due("16 none of " + i, map.candidateOf(i), -1);
      check.due("17 never of " + i, map.nameFrom(i), 6);
      check.due("18 itself of " + i, map.seenFrom(i), 0);
      check.due("23 no width of " + i, Check.answer(() -> map.widthOf(feature)), "throws.NoSuchElementException");
      for (int z = 0; z < 6; z++) {
        int zoom = z;
        check.due("21 no left end of " + i, Check.answer(() -> map.left(feature, zoom)), "throws.NoSuchElementException");
        check.due("22 no upper end of " + i, Check.answer(() -> map.top(feature, zoom)), "throws.NoSuchElementException");
      }
    }
    check.due("30 no share", map.namedShare(5), 0.0f);
    check.due("31 all never", map.meanFrom(), 6.0);
    check.due("32 consistent", map.isConsistent(), true);
  }

  /** The first name is seen from the zoom 4 on, where it hides the second, which is free at 3 and at 5. */
  private static Cartouche hiddenAmid() {
    Cartouche map = new Cartouche();
    map.addArea(400, 400, 600, 600, 9, 6, 6);
    map.addArea(415, 404, 615, 604, 5, 6, 6);
    map.addPoint(485, 500, 0, 0, 1, 1);
    map.choose(0, 0);
    map.choose(1, 0);
    return map;
  }

  private void inItAndAllGreaterOnes() {
    Cartouche map = hiddenAmid();
    dueFroms("free at the zoom 3, but not at the next", map, 4, 5, 6);
    map.choose(0, -1);
    dueFroms("without the first name", map, 6, 3, 6);
    map.choose(0, 0);
    map.remove(2);
    dueFroms("the first name is seen as soon as it fits", map, 1, 5);
  }

  private void notBeforeItsFeature() {
    // Symbols with the reach 0 at places next to each other are apart from the zoom 3 on.
    Cartouche map = new Cartouche();
    map.addPoint(496, 500, 9, 0, 1, 1);
    for (int apart : new int[] {64, 8, 4, 2, 1, 0}) {
      int number = map.features() == 1 ? map.addPoint(496 + apart, 500, 0, 0, 1, 1) : -1;
      map.choose(number, 2);
      int due = apart == 64 ? 0 : apart == 8 ? 0 : apart == 4 ? 1 : apart == 2 ? 2 : apart == 1 ? 3 : 6;
      check.due("18 at a distance of " + apart, map.seenFrom(number), due);
      check.due("17 at a distance of " + apart, map.nameFrom(number), due);
      map.remove(number);
    }
  }

  private void strongerNames() {
    Cartouche map = new Cartouche();
    map.addArea(400, 400, 600, 600, 5, 1, 1);
    map.addArea(400, 400, 600, 600, 5, 1, 1);
    map.addArea(400, 400, 600, 600, 5, 1, 1);
    for (int i = 2; i >= 0; i--) {
      map.choose(i, 0);
    }
    dueFroms("of the same strength, the lowest number", map, 0, 6, 6);
    map.setWish(2, 1);
    dueFroms("the strongest one", map, 6, 6, 0);
    map.choose(2, -1);
    dueFroms("a name that is gone", map, 0, 6, 6);
    map.remove(0);
    check.due("17 a feature that is gone", map.nameFrom(1), 0);
    map.choose(2, 2);
    check.due("17 hidden by its other form too", map.nameFrom(1), 6);
    // The middles are 5 apart at the zoom 3, and 6 or 10 are needed.
    map.shift(1, 5, 0);
    check.due("17 one place in common at the zoom 3", map.nameFrom(1), 4);
    map.shift(1, 1, 0);
    check.due("17 side by side at the zoom 3", map.nameFrom(1), 3);
    map.shift(1, -12, 0);
    check.due("17 side by side on the other side", map.nameFrom(1), 3);
    map.shift(1, 1, 0);
    check.due("17 one place in common there", map.nameFrom(1), 4);
    map.shift(1, 5, 10);
    check.due("17 below one another at the zoom 3", map.nameFrom(1), 3);
    map.shift(1, 0, -1);
    check.due("17 one place in common below", map.nameFrom(1), 4);
    map.shift(1, 0, -19);
    check.due("17 above one another at the zoom 3", map.nameFrom(1), 3);
    map.shift(1, 0, 1);
    check.due("17 one place in common above", map.nameFrom(1), 4);
    map.shift(1, 5, 0);
    check.due("17 one place in common at a corner", map.nameFrom(1), 4);
    map.shift(1, 1, 0);
    check.due("17 beyond that corner", map.nameFrom(1), 3);
  }

  private void namesThatAreNotSeenAreInNobodysWay() {
    Cartouche map = new Cartouche();
    // The line has no stretch at first, and then one that is too short up to the zoom 4.
    map.addLine(500, 507, 9, 1, 1);
    map.addArea(400, 400, 600, 600, 5, 1, 1);
    map.choose(0, 0);
    map.choose(1, 0);
    dueFroms("a line without a stretch", map, 6, 0);
    map.addVertex(0, 502, 507);
    dueFroms("a line at the last zoom, where it is apart", map, 5, 0);
    map.shift(0, -1, -4);
    dueFroms("a line at the last zoom, where it is in the way", map, 5, 6);
    // A name without its symbol is not seen, and so not in the way.
    Cartouche hidden = new Cartouche();
    hidden.addPoint(500, 500, 9, 0, 1, 1);
    hidden.addPoint(500, 500, 8, 0, 20, 20);
    hidden.addArea(440, 440, 580, 560, 5, 1, 1);
    hidden.choose(1, 0);
    hidden.choose(2, 0);
    // The symbol alone is in the way of the area's name, up to the zoom 1.
    dueFroms("a point that is never seen", hidden, 6, 6, 2);
    hidden.remove(0);
    check.due("17 seen now", hidden.nameFrom(1), 1);
    check.due("17 in the way now", hidden.nameFrom(2), 6);
  }

  private void symbolsOfAllOthers() {
    Cartouche map = new Cartouche();
    map.addArea(400, 400, 600, 600, 9, 1, 1);
    map.addPoint(500, 500, 0, 0, 1, 1);
    map.choose(0, 0);
    check.due("17 amid the symbol of a weaker one", map.nameFrom(0), 6);
    // The name has the places 497 to 502 and 495 to 504 of the zoom 3.
    int[][] inside = {{497, 495}, {502, 495}, {497, 504}, {502, 504}, {500, 500}};
    int[][] outside = {{496, 495}, {503, 504}, {497, 494}, {502, 505}, {496, 505}, {503, 494}};
    int x = 500;
    int y = 500;
    for (int[] place : inside) {
      map.shift(1, place[0] - x, place[1] - y);
      x = place[0];
      y = place[1];
      check.due("17 a symbol at " + x + ", " + y, map.nameFrom(0) > 3, true);
    }
    for (int[] place : outside) {
      map.shift(1, place[0] - x, place[1] - y);
      x = place[0];
      y = place[1];
      check.due("17 a symbol at " + x + ", " + y, map.nameFrom(0) <= 3, true);
    }
    // A reach of 8 takes the symbol 8 places further.
    Cartouche reach = new Cartouche();
    reach.addArea(400, 400, 600, 600, 9, 1, 1);
    reach.addPoint(510, 500, 0, 8, 1, 1);
    reach.choose(0, 0);
    check.due("17 a symbol from 502 on", reach.nameFrom(0), 4);
    reach.shift(1, 1, 0);
    check.due("17 a symbol from 503 on", reach.nameFrom(0), 3);
    // Its own symbol touches the name on its left.
    Cartouche own = new Cartouche();
    own.addPoint(500, 500, 5, 8, 20, 20);
    for (int candidate = 0; candidate < 16; candidate++) {
      own.choose(0, candidate);
      check.due("17 beside its own symbol, " + candidate, own.nameFrom(0) <= 2, true);
    }
  }

  /** What hides a name can be hidden itself: each second of them is seen. */
  private void chainOfNames() {
    Cartouche map = new Cartouche();
    for (int i = 0; i < 24; i++) {
      // Middles 4 apart at the zoom 0, and names with 6 places there.
      map.addArea(40 + 32 * i - 40, 0, 40 + 32 * i + 40, 96, 5, 1, 1);
      map.choose(i, 0);
    }
    for (int i = 0; i < 24; i++) {
      check.due("17 in a chain, " + i, map.nameFrom(i), i % 2 == 0 ? 0 : 1);
    }
    map.remove(0);
    // At the zoom 0 the others change: the second hides the third, and so on.
    for (int i = 1; i < 24; i++) {
      check.due("17 in a chain without the first, " + i, map.nameFrom(i), i % 2 == 1 ? 0 : 1);
    }
    check.due("30 each second one", map.namedShare(0), 12.0f / 23.0f);
    check.due("30 all", map.namedShare(1), 1.0f);
    check.due("31 the mean", map.meanFrom(), 11.0 / 23.0);
  }

  // ---- costs

  /** An area of each size, so that its name is seen from each zoom on, or never. */
  private void costs() {
    int[] heights = {80, 40, 20, 10, 5, 3, 2};
    for (int from = 0; from <= 6; from++) {
      for (int rank : new int[] {0, 1, 5, 9}) {
        Cartouche map = new Cartouche();
        map.addArea(400, 400, 600, 400 + heights[from], rank, 1, 1);
        check.due("19 without a candidate", map.cost(), (rank + 1) * 120L + 16);
        map.choose(0, 0);
        check.due("17 from the zoom", map.nameFrom(0), from);
        check.due("19 from the zoom " + from + ", rank " + rank, map.cost(), (rank + 1) * from * 20L);
        map.choose(0, 2);
        check.due("19 the short form", map.cost(), (rank + 1) * from * 20L + 8);
        map.setWish(0, 9);
        check.due("19 a wish costs nothing", map.cost(), (rank + 1) * from * 20L + 8);
        map.choose(0, -1);
        check.due("19 without a candidate again", map.cost(), (rank + 1) * 120L + 16);
      }
    }
  }

  private void tastes() {
    Cartouche map = new Cartouche();
    // Never seen, so that only the taste makes a difference: of rank 0, 120 each.
    map.addPoint(5, 5, 9, 0, 1, 1);
    map.addPoint(5, 5, 0, 0, 1, 1);
    map.remove(0);
    map.addPoint(5, 5, 9, 0, 1, 1);
    map.addLine(5, 5, 0, 1, 1);
    map.addArea(5, 5, 5, 5, 0, 1, 1);
    long others = map.cost() - 120 - 16;
    int[] halves = {8, 0, 5, 2};
    for (int feature : new int[] {1, 3, 4}) {
      int half = halves[feature - 1];
      for (int candidate = 0; candidate < 2 * half; candidate++) {
        map.choose(feature, candidate);
        int taste = candidate < half ? candidate : candidate - half + 8;
        check.due("19 the taste of " + candidate + " of " + feature, map.cost(), others + 120 + taste);
      }
      map.choose(feature, -1);
      check.due("19 the taste of none of " + feature, map.cost(), others + 120 + 16);
    }
  }

  private void costOfFullMap() {
    Cartouche map = new Cartouche();
    for (int i = 0; i < 24; i++) {
      map.addArea(0, 0, 0, 0, 9, 20, 20);
      check.due("19 of " + (i + 1), map.cost(), (i + 1) * (10 * 6 * 20 + 16L));
    }
    for (int i = 0; i < 24; i++) {
      map.choose(i, 3);
    }
    check.due("19 all never seen", map.cost(), 24 * (1200 + 9L));
    for (int i = 0; i < 24; i++) {
      map.remove(i);
      check.due("19 without " + i, map.cost(), (23 - i) * (1200 + 9L));
    }
  }

  // ---- placing

  private void placeEmptyLockedAndFull() {
    Cartouche map = new Cartouche();
    check.due("12 without features", map.place(), 0);
    for (int i = 0; i < 24; i++) {
      map.addPoint(160 * (i % 6) + 80, 240 * (i / 6) + 80, 5, 0, 1, 1);
      map.lock(i, true);
    }
    check.due("12 all are locked", map.place(), 0);
    check.due("16 none still", map.candidateOf(23), -1);
    for (int i = 0; i < 24; i++) {
      map.lock(i, false);
    }
    check.due("12 all of a full map", map.place(), 24);
    check.due("12 none of them again", map.place(), 0);
    check.due("19 the best", map.cost(), 0L);
    map.choose(0, 1);
    map.choose(23, -1);
    check.due("12 the first and the last", map.place(), 2);
    map.choose(11, 15);
    check.due("12 one amid", map.place(), 1);
    check.due("19 the best again", map.cost(), 0L);
  }

  /** What a name does to weaker ones is not looked at, nor where these have been. */
  private void placeByOwnCostAlone() {
    Cartouche map = new Cartouche();
    map.addArea(400, 400, 600, 600, 0, 1, 1);
    map.addArea(400, 400, 600, 600, 9, 1, 1);
    map.choose(0, 0);
    check.due("12 both get another one", map.place(), 1);
    check.due("16 the stronger one has the best", map.candidateOf(1), 0);
    // All places are taken by the stronger name: never seen, so the first one.
    check.due("16 the weaker one has the first of all", map.candidateOf(0), 0);
    dueFroms("the weaker one is never seen", map, 6, 0);
    map.setWish(0, 9);
    dueFroms("of the same strength, the lower number", map, 0, 6);
    check.due("12 both have the first one", map.place(), 0);
    map.setWish(1, 1);
    dueFroms("the greater sum", map, 6, 0);
    map.remove(1);
    check.due("17 alone", map.nameFrom(0), 0);
  }

  private void placeWithLockedOnes() {
    Cartouche map = new Cartouche();
    map.addPoint(500, 500, 9, 0, 2, 2);
    map.addLine(440, 500, 5, 2, 2);
    map.addVertex(1, 660, 500);
    map.lock(0, true);
    map.choose(0, 1);
    check.due("12 the line alone", map.place(), 1);
    // The locked name above the point has 489 to 498 of the zoom 3, and the line's middle is 550.
    check.due("16 the locked one stays", map.candidateOf(0), 1);
    check.due("16 the line's first stretch", map.candidateOf(1), 0);
    map.setWish(1, 9);
    check.due("12 nothing else", map.place(), 0);
    map.lock(0, false);
    check.due("12 the point now", map.place(), 1);
    // At the zoom 0 the line's name has 62 to 73 and 50 to 59, where the point's would be on its right.
    check.due("16 the point's best", map.candidateOf(0), 2);
    map.lock(0, true);
    map.lock(1, true);
    map.choose(0, -1);
    map.choose(1, -1);
    check.due("12 none of two", map.place(), 0);
    check.due("19 both without", map.cost(), 10 * 120 + 6 * 120 + 32L);
  }

  /** Maps where the last candidate of a point, a line or an area is the one that is seen from the zoom 0 on. */
  private static Cartouche lastIsBest(int kind) {
    Cartouche map = new Cartouche();
    if (kind == 0) {
      // 8 and 120 places have no room on the screen of 125.
      map.addPoint(999, 0, 5, 8, 20, 1);
    } else if (kind == 1) {
      map.addLine(500, 500, 5, 20, 1);
      for (int vertex = 1; vertex < 5; vertex++) {
        map.addVertex(0, 500, 500);
      }
      map.addVertex(0, 600, 500);
    } else {
      // 15 by 25 places at the zoom 0: the short form has 24 by 10 or 12 by 20.
      map.addArea(400, 400, 520, 600, 5, 20, 4);
    }
    return map;
  }

  private void theLastCandidateIsTheBest() {
    int[] lasts = {15, 9, 3};
    long[] tastes = {15, 12, 9};
    for (int kind = 0; kind < 3; kind++) {
      Cartouche map = lastIsBest(kind);
      check.due("20 the last one", map.leastCost(), tastes[kind]);
      check.due("12 the last one", map.place(), 1);
      check.due("16 placed, the kind " + kind, map.candidateOf(0), lasts[kind]);
      check.due("19 placed, the kind " + kind, map.cost(), tastes[kind]);
      check.due("17 placed, the kind " + kind, map.nameFrom(0), 0);
      check.due("13 no other one is better", map.improve(500), lasts[kind] + 1);
      check.due("20 still", map.leastCost(), tastes[kind]);
      // From none, the last candidate is the last trial but none.
      Cartouche improved = lastIsBest(kind);
      improved.improve(lasts[kind]);
      check.due("16 before the last trial", improved.candidateOf(0) < lasts[kind], true);
      Cartouche whole = lastIsBest(kind);
      check.due("13 to the last candidate", whole.improve(lasts[kind] + 1), lasts[kind] + 1);
      check.due("16 improved, the kind " + kind, whole.candidateOf(0), lasts[kind]);
      check.due("13 a second round without it", lastIsBest(kind).improve(500), 2 * (lasts[kind] + 1) + 1);
    }
  }

  // ---- improving

  private static Cartouche onePoint(int candidate) {
    Cartouche map = new Cartouche();
    map.addPoint(500, 500, 5, 0, 1, 1);
    map.choose(0, candidate);
    return map;
  }

  private void improveCountsTrials() {
    Cartouche none = new Cartouche();
    for (int trials : new int[] {1, 2, 499, 500}) {
      check.due("13 without features", none.improve(trials), 0);
    }
    // From the best one, a round has 16 trials and changes nothing.
    check.due("13 from the best", onePoint(0).improve(500), 16);
    check.due("13 as many", onePoint(0).improve(16), 16);
    check.due("13 one less", onePoint(0).improve(15), 15);
    check.due("13 one", onePoint(0).improve(1), 1);
    // From none or another one, the first trial helps, so that all others follow and then a second round.
    check.due("13 from none", onePoint(-1).improve(500), 33);
    check.due("13 from none, as many", onePoint(-1).improve(33), 33);
    check.due("13 from none, one less", onePoint(-1).improve(32), 32);
    check.due("13 from none, a round", onePoint(-1).improve(17), 17);
    for (int candidate = 1; candidate < 16; candidate++) {
      check.due("13 from " + candidate, onePoint(candidate).improve(500), 33);
    }
    Cartouche area = new Cartouche();
    area.addArea(400, 400, 600, 600, 5, 1, 1);
    check.due("13 an area from none: 5 and 4", area.improve(500), 9);
    check.due("13 an area from the best", area.improve(500), 4);
    area.choose(0, 3);
    check.due("13 an area from the last", area.improve(500), 9);
    Cartouche line = new Cartouche();
    line.addLine(400, 400, 5, 1, 1);
    line.addVertex(0, 600, 400);
    check.due("13 a line from none: 11 and 10", line.improve(500), 21);
    check.due("13 a line from the best", line.improve(500), 10);
    Cartouche never = new Cartouche();
    never.addLine(400, 400, 5, 1, 1);
    check.due("13 a line without a stretch", never.improve(500), 21);
    check.due("16 it has the first one", never.candidateOf(0), 0);
    check.due("13 each kind in a round", threeKinds().improve(30), 30);
    check.due("13 each kind in a round, more than one", threeKinds().improve(500), 30);
  }

  /** A point, a line and an area far from one another, with their best candidates. */
  private static Cartouche threeKinds() {
    Cartouche map = onePoint(0);
    map.addLine(100, 200, 5, 1, 1);
    map.addVertex(1, 300, 200);
    map.addArea(700, 700, 900, 900, 5, 1, 1);
    map.choose(1, 0);
    map.choose(2, 0);
    return map;
  }

  /** Stopped after each number of trials, it shows which candidates were tried: the one it has is left out. */
  private void improveSkipsWhatItHas() {
    // At the upper edge, above is off the screen, and beside too: 2 is the best, then 5 and 7, 10 and so on.
    int[] from5 = {5, 5, 2, 2, 2, 2, 2, 2};
    for (int trials = 1; trials <= from5.length; trials++) {
      Cartouche map = atTheUpperEdge(5);
      check.due("13 from 5, trials", map.improve(trials), trials);
      check.due("16 from 5 after " + trials, map.candidateOf(0), from5[trials - 1]);
    }
    // 0, 1 don't help; 2 helps; 3 to 15 and none follow: 17 in all, and a second round without 2.
    check.due("13 from 5, all", atTheUpperEdge(5).improve(500), 33);
    // From 2: 0, 1, 3 to 15, and none.
    check.due("13 from 2, all", atTheUpperEdge(2).improve(500), 16);
    // From none: 0 is cheaper by its taste, then 2 is seen.
    int[] fromNone = {0, 0, 2, 2};
    for (int trials = 1; trials <= fromNone.length; trials++) {
      Cartouche map = atTheUpperEdge(-1);
      check.due("13 from none, trials", map.improve(trials), trials);
      check.due("16 from none after " + trials, map.candidateOf(0), fromNone[trials - 1]);
    }
    check.due("13 from none, all", atTheUpperEdge(-1).improve(500), 33);
    // From 1: the first trial is 0, which is cheaper by its taste; then 1 is tried, since it is not had any more.
    int[] from1 = {0, 0, 2};
    for (int trials = 1; trials <= from1.length; trials++) {
      Cartouche map = atTheUpperEdge(1);
      check.due("13 from 1, trials", map.improve(trials), trials);
      check.due("16 from 1 after " + trials, map.candidateOf(0), from1[trials - 1]);
    }
    // None is the last trial, and never helps.
    Cartouche last = atTheUpperEdge(2);
    last.improve(15);
    check.due("16 before none", last.candidateOf(0), 2);
    last.improve(16);
    check.due("16 after none", last.candidateOf(0), 2);
  }

  private static Cartouche atTheUpperEdge(int candidate) {
    Cartouche map = new Cartouche();
    map.addPoint(500, 0, 5, 0, 1, 1);
    map.choose(0, candidate);
    return map;
  }

  /** The stronger one gives way if all together are better off by that, which placing does not look at. */
  private void improveLooksAtAll() {
    Cartouche map = new Cartouche();
    map.addArea(200, 200, 800, 800, 0, 8, 1);
    map.addArea(592, 400, 664, 600, 8, 1, 1);
    map.setWish(0, 9);
    map.place();
    // At the zoom 0 the first name has 38 to 85, and the second one 75 to 80.
    dueFroms("placed", map, 0, 1);
    check.due("19 placed", map.cost(), 9 * 20L);
    map.lock(0, true);
    check.due("13 the weaker one alone", map.improve(500), 4);
    check.due("19 nothing helps it", map.cost(), 9 * 20L);
    check.due("20 nothing helps it", map.leastCost(), 9 * 20L);
    map.lock(0, false);
    check.due("20 in two lines there is room for both", map.leastCost(), 1L);
    check.due("13 the first trial", map.improve(1), 1);
    check.due("16 it gives way", map.candidateOf(0), 1);
    dueFroms("improved", map, 0, 0);
    check.due("19 improved", map.cost(), 1L);
    check.due("13 a round without a change", map.improve(500), 8);
    check.due("12 placing takes it back", map.place(), 1);
    check.due("19 placed again", map.cost(), 9 * 20L);
    check.due("13 a round with a change and one without", map.improve(500), 16);
    check.due("19 improved again", map.cost(), 1L);
  }

  private void improveStopsAmid() {
    // 24 points without candidates: each helps itself by its first trial, and has 17 of them.
    for (int trials : new int[] {1, 17, 18, 34, 35, 392, 408, 500}) {
      Cartouche map = new Cartouche();
      for (int i = 0; i < 24; i++) {
        map.addPoint(160 * (i % 6) + 80, 240 * (i / 6) + 80, 5, 0, 1, 1);
      }
      map.setWish(20, 1);
      check.due("13 all trials", map.improve(trials), trials);
      int named = 0;
      for (int i = 0; i < 24; i++) {
        named += map.candidateOf(i) == 0 ? 1 : 0;
      }
      check.due("13 those reached by " + trials, named, Math.min(24, (trials + 16) / 17));
      check.due("16 the strongest one is the first", map.candidateOf(20), 0);
      check.due("16 the first number is the second one", map.candidateOf(0), trials > 17 ? 0 : -1);
    }
  }

  private void improveLocked() {
    Cartouche map = threeKinds();
    map.choose(0, -1);
    map.choose(1, -1);
    map.choose(2, -1);
    for (int i = 0; i < 3; i++) {
      map.lock(i, true);
    }
    check.due("13 all are locked", map.improve(500), 0);
    check.due("13 all are locked, one trial", map.improve(1), 0);
    map.lock(1, false);
    check.due("13 the line alone", map.improve(500), 21);
    check.due("16 the line", map.candidateOf(1), 0);
    check.due("16 not the point", map.candidateOf(0), -1);
    check.due("16 not the area", map.candidateOf(2), -1);
    map.lock(1, true);
    map.lock(2, false);
    check.due("13 the area alone", map.improve(500), 9);
    map.lock(0, false);
    check.due("13 the point and the area", map.improve(500), 17 + 4 + 16 + 4);
  }

  // ---- the least cost

  private static Cartouche ofKinds(int points, int lines, int areas) {
    Cartouche map = new Cartouche();
    for (int i = 0; i < points; i++) {
      map.addPoint(160 * (i % 6) + 80, 240 * (i / 6) + 80, 0, 0, 1, 1);
    }
    for (int i = 0; i < lines; i++) {
      map.addLine(0, 0, 0, 1, 1);
    }
    for (int i = 0; i < areas; i++) {
      map.addArea(0, 0, 0, 0, 0, 1, 1);
    }
    return map;
  }

  /** A point has 17 placements, a line 11, and an area 5. */
  private void leastCostWithin3000() {
    int[][] kinds = {
      {0, 0, 0}, {1, 0, 0}, {0, 1, 0}, {0, 0, 1}, {2, 0, 0}, {2, 0, 1}, {1, 1, 1}, {1, 2, 0}, {1, 0, 3}, {0, 3, 0},
      {0, 2, 1}, {0, 1, 3}, {0, 0, 4}, {1, 1, 0},
    };
    for (int[] kind : kinds) {
      Cartouche map = ofKinds(kind[0], kind[1], kind[2]);
      String what = "20 " + kind[0] + " points, " + kind[1] + " lines, " + kind[2] + " areas";
      // The lines and the areas are never seen.
      check.due(what, map.leastCost(), 120L * (kind[1] + kind[2]));
      check.due(what + ", nothing is changed", map.cost(), 136L * (kind[0] + kind[1] + kind[2]));
      map.place();
      check.due(what + ", placed", map.leastCost(), 120L * (kind[1] + kind[2]));
    }
  }

  private void leastCostAbove3000() {
    // 3179, 3179, 3025, 3025 and 3125 placements, and those with one more feature.
    int[][] kinds = {{2, 1, 0}, {0, 2, 2}, {0, 0, 5}, {3, 0, 0}, {2, 0, 2}, {1, 2, 1}, {1, 0, 4}, {0, 4, 0}, {0, 3, 1}, {0, 1, 4}};
    for (int[] kind : kinds) {
      Cartouche map = ofKinds(kind[0], kind[1], kind[2]);
      check.due("20 " + kind[0] + " points, " + kind[1] + " lines, " + kind[2] + " areas", Check.answer(map::leastCost),
          "throws.UnsupportedOperationException");
      map.lock(0, true);
      check.due("20 with one locked", Check.answer(map::leastCost).equals("throws.UnsupportedOperationException"),
          placements(kind) / (kind[0] > 0 ? 17 : kind[1] > 0 ? 11 : 5) > 3000);
    }
    // Their product goes beyond an int with 8 points, and beyond a long with 16.
    for (int points = 3; points <= 24; points++) {
      check.due("20 " + points + " points", Check.answer(ofKinds(points, 0, 0)::leastCost), "throws.UnsupportedOperationException");
    }
    for (int lines = 4; lines <= 24; lines++) {
      check.due("20 " + lines + " lines", Check.answer(ofKinds(0, lines, 0)::leastCost), "throws.UnsupportedOperationException");
    }
    for (int areas = 5; areas <= 24; areas++) {
      check.due("20 " + areas + " areas", Check.answer(ofKinds(0, 0, areas)::leastCost), "throws.UnsupportedOperationException");
    }
  }

  private static int placements(int[] kind) {
    int number = 1;
    int[] each = {17, 11, 5};
    for (int i = 0; i < 3; i++) {
      for (int k = 0; k < kind[i]; k++) {
        number *= each[i];
      }
    }
    return number;
  }

  private void leastCostOfLocked() {
    Cartouche map = ofKinds(24, 0, 0);
    for (int i = 0; i < 24; i++) {
      map.lock(i, true);
    }
    check.due("20 all are locked without a candidate", map.leastCost(), 24 * 136L);
    for (int i = 0; i < 24; i++) {
      map.choose(i, 15);
    }
    check.due("20 all are locked with the last one", map.leastCost(), 24 * 15L);
    map.lock(23, false);
    check.due("20 the last one is free", map.leastCost(), 23 * 15L);
    map.lock(0, false);
    check.due("20 the first one too", map.leastCost(), 22 * 15L);
    check.due("19 nothing is changed", map.cost(), 24 * 15L);
    map.lock(11, false);
    check.due("20 three are too many", Check.answer(map::leastCost), "throws.UnsupportedOperationException");
    map.remove(11);
    check.due("20 two again", map.leastCost(), 21 * 15L);
  }

  /** Where the stronger one must give way: all placements tried by hand tell the same. */
  private void leastCostIsTheLeast() {
    Cartouche map = hiddenAmid();
    map.addLine(380, 512, 7, 3, 1);
    map.addVertex(3, 620, 500);
    map.lock(2, true);
    for (int turn = 0; turn < 2; turn++) {
      map.turn(turn);
      int[] had = {map.candidateOf(0), map.candidateOf(1), map.candidateOf(3)};
      long least = map.leastCost();
      long tried = Long.MAX_VALUE;
      // 5 times 5 times 11 would be too many calls: the line has its first stretch, its short form, or none.
      map.lock(3, true);
      for (int line : new int[] {-1, 0, 5}) {
        map.choose(3, line);
        tried = Math.min(tried, map.leastCost());
        long triedWithLine = Long.MAX_VALUE;
        for (int first = -1; first < 4; first++) {
          map.choose(0, first);
          for (int second = -1; second < 4; second++) {
            map.choose(1, second);
            triedWithLine = Math.min(triedWithLine, map.cost());
          }
        }
        check.due("20 tried with the line " + line + " by the turn " + turn, map.leastCost(), triedWithLine);
      }
      map.lock(3, false);
      check.due("20 the least of all by the turn " + turn, least, tried);
      map.choose(0, had[0]);
      map.choose(1, had[1]);
      map.choose(3, had[2]);
      check.due("20 still", map.leastCost(), least);
    }
  }
}
