import java.util.NoSuchElementException;

/** The document's sentences on features: their numbers, how many there are, their vertices and their order. */
public final class FeaturesTest {
  private final Check check = new Check();

  public static void main(String[] args) {
    FeaturesTest test = new FeaturesTest();
    test.thereAreAtMost24();
    test.numbersRiseThroughAllKinds();
    test.numbersOfThoseGoneAreNotGivenAgain();
    test.emptiedMap();
    test.whatIsGoneStaysGone();
    test.linesHaveUpTo6Vertices();
    test.sumsOfRankAndWish();
    test.ofSeveralTheLowerNumber();
    test.aWishMovesInTheOrder();
    test.theOrderIsThatOfStrength();
    test.locksStay();
    test.shiftCountsNames();
    test.lastCalls();
    test.check.end("FeaturesTest");
  }

  private static int addOfKind(Cartouche map, int kind) {
    switch (kind % 3) {
      case 0:
        return map.addPoint(5, 5, 5, 5, 5, 5);
      case 1:
        return map.addLine(5, 5, 5, 5, 5);
      default:
        return map.addArea(5, 5, 5, 5, 5, 5, 5);
    }
  }

  /** The 24th of each kind is added, and the 25th of each kind is not. */
  private void thereAreAtMost24() {
    for (int last = 0; last < 3; last++) {
      for (int more = 0; more < 3; more++) {
        int kind = more;
        Cartouche map = new Cartouche();
        for (int i = 0; i < 23; i++) {
          addOfKind(map, i);
        }
        check.due("11 before the last one", map.features(), 23);
        check.due("2, 3 and 5: the 24th, of the kind " + last, addOfKind(map, last), 23);
        check.due("11 all", map.features(), 24);
        check.due("2, 3 and 5: the 25th, of the kind " + more, Check.answer(() -> addOfKind(map, kind)),
            "throws.IllegalStateException");
        check.due("11 still", map.features(), 24);
        check.due("15 the last one is there", map.candidates(23), new int[] {16, 10, 4}[last]);
        check.due("15 no other one is", Check.answer(() -> map.candidates(24)), "throws.IndexOutOfBoundsException");
      }
    }
  }

  private void numbersRiseThroughAllKinds() {
    Cartouche map = new Cartouche();
    int[] kinds = {0, 1, 2, 2, 1, 0, 1, 0, 2};
    for (int i = 0; i < kinds.length; i++) {
      check.due("2, 3 and 5: the number", addOfKind(map, kinds[i]), i);
      // What is refused takes no number.
      Check.answer(() -> map.addPoint(5, 5, 5, 9, 5, 5));
      Check.answer(() -> map.addLine(5, 5, 5, 5, 6));
      Check.answer(() -> map.addArea(5, 5, 5, 1000, 5, 5, 5));
    }
  }

  private void numbersOfThoseGoneAreNotGivenAgain() {
    Cartouche map = new Cartouche();
    for (int i = 0; i < 4; i++) {
      addOfKind(map, i);
    }
    check.due("6 the last one", map.remove(3), 3);
    check.due("2 not the number of the last one", addOfKind(map, 0), 4);
    check.due("6 the first one", map.remove(0), 3);
    check.due("3 not the number of the first one", addOfKind(map, 1), 5);
    check.due("6 one amid", map.remove(2), 3);
    check.due("5 not the number of that one", addOfKind(map, 2), 6);
    // Added and taken away by turns, the numbers still rise.
    for (int number = 7; number < 24; number++) {
      check.due("2, 3 and 5: the number after those gone", addOfKind(map, number), number);
      check.due("6 at once", map.remove(number), 4);
    }
    check.due("2 there were 24", Check.answer(() -> addOfKind(map, 0)), "throws.IllegalStateException");
    check.due("11 though four are left", map.features(), 4);
  }

  private void emptiedMap() {
    Cartouche map = new Cartouche();
    for (int i = 0; i < 24; i++) {
      addOfKind(map, i);
    }
    map.turn(3);
    map.place();
    for (int i = 0; i < 24; i++) {
      check.due("6 left after " + i, map.remove(i), 23 - i);
    }
    check.due("6 none any more", Check.answer(() -> map.remove(23)), "throws.IndexOutOfBoundsException");
    check.due("11 none", map.features(), 0);
    check.due("12 none", map.place(), 0);
    check.due("13 none", map.improve(500), 0);
    check.due("19 none", map.cost(), 0L);
    check.due("20 none", map.leastCost(), 0L);
    check.due("25 none", map.namesIn(0, 0, 0), 0);
    check.due("30 none", Check.answer(() -> map.namedShare(5)), "throws.ArithmeticException");
    check.due("31 none", Check.answer(map::meanFrom), "throws.ArithmeticException");
    check.due("32 none", map.isConsistent(), true);
    check.due("9 the turn is left", map.turn(0), 3);
    for (int kind = 0; kind < 3; kind++) {
      int i = kind;
      check.due("2, 3 and 5: there were 24", Check.answer(() -> addOfKind(map, i)), "throws.IllegalStateException");
    }
  }

  private void whatIsGoneStaysGone() {
    Cartouche map = new Cartouche();
    map.addLine(5, 5, 5, 5, 5);
    map.setWish(0, 9);
    map.lock(0, true);
    map.choose(0, 3);
    map.remove(0);
    map.addLine(5, 5, 5, 5, 5);
    check.due("3 the new one has its own number", map.candidates(1), 10);
    check.due("7 the new one has no wish", map.setWish(1, 0), 0);
    check.due("10 the new one is not locked", map.lock(1, false), false);
    check.due("16 the new one has no candidate", map.candidateOf(1), -1);
    check.due("4 the new one has one vertex", map.addVertex(1, 6, 6), 2);
    check.due("4 the one that is gone has none", Check.answer(() -> map.addVertex(0, 6, 6)),
        "throws.IndexOutOfBoundsException");
    check.due("6 gone once", Check.answer(() -> map.remove(0)), "throws.IndexOutOfBoundsException");
    check.due("29 only the new one", map.indexed(0, 0), 1);
    check.due("29 no other one", Check.answer(() -> map.indexed(0, 1)), "throws.NoSuchElementException");
  }

  private void linesHaveUpTo6Vertices() {
    Cartouche map = new Cartouche();
    map.addLine(500, 100, 5, 1, 1);
    for (int vertices = 1; vertices <= 6; vertices++) {
      for (int candidate = 0; candidate < 10; candidate++) {
        map.choose(0, candidate);
        // The stretch k goes from the vertex k to the next one.
        boolean isThere = candidate % 5 + 1 < vertices;
        check.due("4 the candidate " + candidate + " with " + vertices + " vertices", map.nameFrom(0) < 6, isThere);
      }
      if (vertices < 6) {
        check.due("4 the number of vertices", map.addVertex(0, 500, 100 + 100 * vertices), vertices + 1);
      }
    }
    check.due("4 the seventh", Check.answer(() -> map.addVertex(0, 500, 700)), "throws.IllegalStateException");
    check.due("4 the seventh again", Check.answer(() -> map.addVertex(0, 0, 0)), "throws.IllegalStateException");
    map.choose(0, 4);
    check.due("4 the last stretch is as it was", map.top(0, 3), 550 - 12);
  }

  /** The greatest sum is 18, the least 0; rank and wish count alike. */
  private void sumsOfRankAndWish() {
    int[][] strengths = {{0, 0}, {9, 9}, {9, 8}, {8, 9}, {0, 9}, {9, 0}, {1, 9}, {0, 1}, {1, 0}};
    int[] order = {1, 2, 3, 6, 4, 5, 7, 8, 0};
    Cartouche map = new Cartouche();
    for (int i = 0; i < strengths.length; i++) {
      map.addPoint(5, 5, strengths[i][0], 0, 1, 1);
      map.setWish(i, strengths[i][1]);
    }
    dueOrder("rank and wish", map, order);
  }

  private void dueOrder(String what, Cartouche map, int... order) {
    for (int i = 0; i < order.length; i++) {
      check.due("29 " + what + ", the rank " + i, map.indexed(0, i), order[i]);
    }
    int beyond = order.length;
    check.due("29 " + what + ", beyond", Check.answer(() -> map.indexed(0, beyond)),
        "throws." + NoSuchElementException.class.getSimpleName());
  }

  private void ofSeveralTheLowerNumber() {
    Cartouche map = new Cartouche();
    for (int i = 0; i < 10; i++) {
      map.addPoint(5, 5, 9 - i, 0, 1, 1);
      map.setWish(i, i);
    }
    dueOrder("all sums are 9", map, 0, 1, 2, 3, 4, 5, 6, 7, 8, 9);
    map.remove(4);
    map.setWish(0, 1);
    map.setWish(9, 8);
    dueOrder("one more, one less, one gone", map, 0, 1, 2, 3, 5, 6, 7, 8, 9);
  }

  private void aWishMovesInTheOrder() {
    Cartouche map = new Cartouche();
    map.addPoint(5, 5, 4, 0, 1, 1);
    map.addLine(5, 5, 5, 1, 1);
    map.addArea(5, 5, 5, 5, 6, 1, 1);
    dueOrder("without wishes", map, 2, 1, 0);
    map.setWish(0, 1);
    dueOrder("as strong as a greater number", map, 2, 0, 1);
    map.setWish(0, 2);
    dueOrder("as strong as the first one", map, 0, 2, 1);
    map.setWish(2, 1);
    dueOrder("one stronger again", map, 2, 0, 1);
    map.setWish(1, 2);
    dueOrder("as strong as the first one, and lower", map, 1, 2, 0);
    map.setWish(1, 1);
    dueOrder("as strong as a lower number", map, 2, 0, 1);
    map.setWish(0, 9);
    map.setWish(1, 9);
    map.setWish(2, 9);
    dueOrder("all by the greatest wish", map, 2, 1, 0);
    map.setWish(0, 0);
    map.setWish(1, 0);
    map.setWish(2, 0);
    dueOrder("all by none", map, 2, 1, 0);
  }

  /** The order tells whose symbol is seen, and which name comes first in a tile. */
  private void theOrderIsThatOfStrength() {
    Cartouche map = new Cartouche();
    for (int i = 0; i < 4; i++) {
      map.addPoint(5, 5, 2, i, 1, 1);
    }
    for (int strongest = 0; strongest < 4; strongest++) {
      map.setWish(strongest, 1);
      for (int i = 0; i < 4; i++) {
        check.due("18 of " + i + ", the strongest is " + strongest, map.seenFrom(i), i == strongest ? 0 : 6);
      }
      map.setWish(strongest, 0);
    }
    check.due("18 the lowest number without wishes", map.seenFrom(0), 0);
    Cartouche tile = new Cartouche();
    for (int i = 0; i < 3; i++) {
      tile.addArea(450 + 15 * i, 450, 470 + 15 * i, 500, 2, 1, 1);
      tile.choose(i, 0);
    }
    for (int strongest = 0; strongest < 3; strongest++) {
      tile.setWish(strongest, 1);
      check.due("26 the strongest first", tile.nameIn(3, 7, 7, 0), strongest);
      check.due("26 then the lower one", tile.nameIn(3, 7, 7, 1), strongest == 0 ? 1 : 0);
      check.due("26 then the higher one", tile.nameIn(3, 7, 7, 2), strongest == 2 ? 1 : 2);
      tile.setWish(strongest, 0);
    }
  }

  /** A lock is told and kept, whatever else is done with the feature. */
  private void locksStay() {
    Cartouche map = new Cartouche();
    map.addLine(500, 500, 5, 1, 1);
    map.addLine(500, 600, 5, 1, 1);
    check.due("10 not at first", map.lock(0, false), false);
    check.due("10 not yet", map.lock(0, true), false);
    map.addVertex(0, 600, 500);
    map.setWish(0, 9);
    map.shift(0, 1, 1);
    map.turn(2);
    map.choose(0, 3);
    map.place();
    map.improve(500);
    map.remove(1);
    check.due("16 neither placed nor improved", map.candidateOf(0), 3);
    check.due("10 still", map.lock(0, true), true);
    check.due("10 still, once more", map.lock(0, false), true);
    check.due("10 no more", map.lock(0, false), false);
    check.due("12 placed now", map.place(), 1);
    check.due("16 placed", map.candidateOf(0), 0);
  }

  /** All names that are seen from another zoom on then count, its own one too: from none to all. */
  private void shiftCountsNames() {
    Cartouche map = new Cartouche();
    for (int i = 0; i < 3; i++) {
      map.addArea(384 + 64 * i, 400, 480 + 64 * i, 592, 5, 1, 1);
      map.choose(i, 0);
    }
    map.addPoint(500, 500, 0, 8, 1, 1);
    // At the zoom 0 the symbol has the places 54 to 70, and the names are about 54, 62 and 70.
    check.due("17 beside a symbol", map.nameFrom(0), 1);
    check.due("17 under a symbol, but at the greatest zoom", map.nameFrom(1), 5);
    check.due("17 on its other side", map.nameFrom(2), 1);
    check.due("8 to where it is", map.shift(3, 0, 0), 0);
    check.due("8 three names are freed", map.shift(3, 0, 400), 3);
    check.due("17 freed", map.nameFrom(0) + map.nameFrom(1) + map.nameFrom(2), 0);
    check.due("8 to where nothing is", map.shift(3, 0, -100), 0);
    check.due("8 three names are hidden", map.shift(3, 0, -300), 3);
    map.choose(3, 5);
    check.due("17 its own name", map.nameFrom(3), 0);
    check.due("8 all, to the last corner", map.shift(3, 499, 499), 4);
    check.due("17 its own name is off the screen", map.nameFrom(3), 6);
    check.due("8 its own name alone", map.shift(3, 0, -999), 0);
    map.choose(3, 7);
    check.due("17 another name of its own", map.nameFrom(3), 0);
    check.due("8 off the screen, alone", map.shift(3, -999, 0), 1);
    map.choose(3, -1);
    check.due("8 without a candidate", map.shift(3, 999, 999), 0);
    map.choose(1, -1);
    check.due("8 an area without a candidate", map.shift(1, 1, 1), 0);
  }

  /** An object has 512 calls, of which the last ones answer like the first ones. */
  private void lastCalls() {
    Cartouche map = new Cartouche();
    for (int i = 0; i < 24; i++) {
      map.addPoint(i, i, 9, 8, 20, 20);
    }
    for (int i = 0; i < 486; i++) {
      map.namesIn(5, i % 63, i / 63);
    }
    check.due("27 the 511th call", map.drawn(), 486);
    check.due("32 the 512th call", map.isConsistent(), true);
    Cartouche busy = Story.full();
    for (int i = 0; i < 400; i++) {
      busy.setWish(i % 24, i % 10);
      if (i % 50 == 0) {
        busy.place();
        busy.improve(500);
      }
    }
    check.due("32 after many calls", busy.isConsistent(), true);
  }
}
