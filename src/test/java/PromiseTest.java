import java.util.NoSuchElementException;

/** Each promise with ordinary numbers, the edges that the document names, and wrong ones. */
public final class PromiseTest {
  private static final Class<IllegalArgumentException> ARGUMENT = IllegalArgumentException.class;
  private static final Class<IllegalStateException> STATE = IllegalStateException.class;
  private static final Class<IndexOutOfBoundsException> INDEX = IndexOutOfBoundsException.class;
  private static final Class<UnsupportedOperationException> UNSUPPORTED = UnsupportedOperationException.class;
  private static final Class<NoSuchElementException> NO_ELEMENT = NoSuchElementException.class;
  private static final Class<ArithmeticException> ARITHMETIC = ArithmeticException.class;

  private static final int[] NO_FEATURES = {-1, 3, 24, 1000000, Integer.MIN_VALUE, Integer.MAX_VALUE};
  private static final int[] NO_ZOOMS = {-1, 6, Integer.MIN_VALUE, Integer.MAX_VALUE};
  private static final int LEAST = Integer.MIN_VALUE;
  private static final int MOST = Integer.MAX_VALUE;

  private final Check check = new Check();

  public static void main(String[] args) {
    PromiseTest test = new PromiseTest();
    test.newObject();
    test.addPoint();
    test.addLine();
    test.addVertex();
    test.addArea();
    test.addingAtTheLimit();
    test.remove();
    test.setWish();
    test.shift();
    test.turn();
    test.lock();
    test.features();
    test.place();
    test.placeAmidOthers();
    test.improve();
    test.improveRounds();
    test.choose();
    test.candidates();
    test.candidateOf();
    test.nameFrom();
    test.seenFrom();
    test.cost();
    test.leastCost();
    test.leastCostBelowPlacing();
    test.leftAndTopOfPoints();
    test.leftAndTopOfLines();
    test.leftAndTopOfAreas();
    test.leftAndTopThrow();
    test.widthOf();
    test.nameAt();
    test.namesIn();
    test.nameIn();
    test.drawn();
    test.tilesAreDropped();
    test.square();
    test.indexed();
    test.namedShare();
    test.meanFrom();
    test.isConsistent();
    test.check.end("PromiseTest");
  }

  /** A point, a line with a stretch and an area, with the numbers 0 to 2. */
  private static Cartouche threeKinds() {
    Cartouche map = new Cartouche();
    map.addPoint(500, 500, 5, 2, 6, 3);
    map.addLine(100, 100, 4, 10, 5);
    map.addVertex(1, 700, 130);
    map.addArea(300, 600, 800, 900, 6, 12, 6);
    return map;
  }

  /** All that can be asked of the features, in a text: a call that throws must leave it as it is. */
  private static String told(Cartouche map) {
    StringBuilder text = new StringBuilder();
    text.append(map.features()).append(' ').append(map.cost()).append(' ').append(map.drawn());
    for (int i = 0; i < 24; i++) {
      int feature = i;
      text.append("; ").append(Check.answer(() -> map.candidateOf(feature)));
      text.append(' ').append(Check.answer(() -> map.nameFrom(feature)));
      text.append(' ').append(Check.answer(() -> map.seenFrom(feature)));
      text.append(' ').append(Check.answer(() -> map.square(feature)));
    }
    return text.toString();
  }

  private void newObject() {
    Cartouche map = new Cartouche();
    check.due("1 features", map.features(), 0);
    check.due("1 turn", map.turn(0), 0);
    check.due("1 cost", map.cost(), 0L);
    check.due("1 leastCost", map.leastCost(), 0L);
    check.due("1 drawn", map.drawn(), 0);
    check.due("1 place", map.place(), 0);
    check.due("1 improve", map.improve(500), 0);
    check.due("1 namesIn", map.namesIn(0, 0, 0), 0);
    check.due("1 isConsistent", map.isConsistent(), true);
    check.dueThrow("1 candidateOf", () -> map.candidateOf(0), INDEX);
    check.dueThrow("1 indexed", () -> map.indexed(0, 0), NO_ELEMENT);
    check.due("1 the first number", map.addPoint(1, 1, 0, 0, 1, 1), 0);
  }

  private void addPoint() {
    Cartouche map = new Cartouche();
    check.due("2 least numbers", map.addPoint(0, 0, 0, 0, 1, 1), 0);
    check.due("2 greatest numbers", map.addPoint(999, 999, 9, 8, 20, 20), 1);
    check.due("2 ordinary numbers", map.addPoint(500, 400, 5, 2, 6, 3), 2);
    String before = told(map);
    int[][] wrong = {
      {-1, 0, 0, 0, 1, 1}, {1000, 0, 0, 0, 1, 1}, {LEAST, 0, 0, 0, 1, 1}, {MOST, 0, 0, 0, 1, 1},
      {0, -1, 0, 0, 1, 1}, {0, 1000, 0, 0, 1, 1}, {0, LEAST, 0, 0, 1, 1}, {0, MOST, 0, 0, 1, 1},
      {0, 0, -1, 0, 1, 1}, {0, 0, 10, 0, 1, 1}, {0, 0, LEAST, 0, 1, 1}, {0, 0, MOST, 0, 1, 1},
      {0, 0, 0, -1, 1, 1}, {0, 0, 0, 9, 1, 1}, {0, 0, 0, LEAST, 1, 1}, {0, 0, 0, MOST, 1, 1},
      {0, 0, 0, 0, 0, 1}, {0, 0, 0, 0, 21, 1}, {0, 0, 0, 0, LEAST, 1}, {0, 0, 0, 0, MOST, 1},
      {0, 0, 0, 0, 5, 0}, {0, 0, 0, 0, 5, 6}, {0, 0, 0, 0, 20, 21}, {0, 0, 0, 0, 21, 21},
      {0, 0, 0, 0, 5, LEAST}, {0, 0, 0, 0, 5, MOST}, {0, 0, 0, 0, 0, 0},
    };
    for (int[] n : wrong) {
      check.dueThrow("2 addPoint with a wrong number", () -> map.addPoint(n[0], n[1], n[2], n[3], n[4], n[5]),
          ARGUMENT);
    }
    check.due("2 a call that throws changes nothing", told(map), before);
    check.due("2 the next number", map.addPoint(7, 7, 0, 0, 1, 1), 3);
    check.due("2 its candidate", map.candidateOf(2), -1);
    check.due("2 its lock", map.lock(2, false), false);
    check.due("2 its wish", map.setWish(2, 0), 0);
    check.due("2 its square", map.square(2), 28);
    check.due("2 its candidates", map.candidates(2), 16);
  }

  private void addLine() {
    Cartouche map = new Cartouche();
    check.due("3 least numbers", map.addLine(0, 0, 0, 1, 1), 0);
    check.due("3 greatest numbers", map.addLine(999, 999, 9, 20, 20), 1);
    check.due("3 ordinary numbers", map.addLine(500, 400, 5, 6, 3), 2);
    String before = told(map);
    int[][] wrong = {
      {-1, 0, 0, 1, 1}, {1000, 0, 0, 1, 1}, {0, -1, 0, 1, 1}, {0, 1000, 0, 1, 1},
      {0, 0, -1, 1, 1}, {0, 0, 10, 1, 1}, {0, 0, 0, 0, 1}, {0, 0, 0, 21, 1},
      {0, 0, 0, 5, 0}, {0, 0, 0, 5, 6}, {0, 0, 0, 21, 21}, {MOST, 0, 0, 1, 1}, {0, 0, 0, MOST, LEAST},
    };
    for (int[] n : wrong) {
      check.dueThrow("3 addLine with a wrong number", () -> map.addLine(n[0], n[1], n[2], n[3], n[4]), ARGUMENT);
    }
    check.due("3 a call that throws changes nothing", told(map), before);
    check.due("3 its square", map.square(2), 28);
    check.due("3 its candidates", map.candidates(2), 10);
    check.due("3 seenFrom", map.seenFrom(2), 0);
    check.due("3 its candidate", map.candidateOf(2), -1);
    for (int candidate = 0; candidate < 10; candidate++) {
      map.choose(2, candidate);
      check.due("3 never good with one vertex", map.nameFrom(2), 6);
    }
    check.due("3 one vertex so far", map.addVertex(2, 1, 1), 2);
  }

  private void addVertex() {
    Cartouche map = threeKinds();
    for (int feature : NO_FEATURES) {
      check.dueThrow("4 no such feature", () -> map.addVertex(feature, -1, 1000), INDEX);
    }
    check.dueThrow("4 a wrong number comes before the kind", () -> map.addVertex(0, 0, 1000), ARGUMENT);
    check.dueThrow("4 the least wrong number", () -> map.addVertex(1, LEAST, 0), ARGUMENT);
    check.dueThrow("4 y too small", () -> map.addVertex(1, 0, -1), ARGUMENT);
    check.dueThrow("4 x too small", () -> map.addVertex(1, -1, 0), ARGUMENT);
    check.dueThrow("4 x too great", () -> map.addVertex(1, 1000, 0), ARGUMENT);
    check.dueThrow("4 a point", () -> map.addVertex(0, 5, 5), UNSUPPORTED);
    check.dueThrow("4 an area", () -> map.addVertex(2, 5, 5), UNSUPPORTED);
    check.due("4 the third", map.addVertex(1, 0, 0), 3);
    check.due("4 the fourth", map.addVertex(1, 999, 999), 4);
    check.due("4 the fifth", map.addVertex(1, 999, 999), 5);
    check.due("4 the sixth", map.addVertex(1, 0, 999), 6);
    String before = told(map);
    check.dueThrow("4 the seventh", () -> map.addVertex(1, 5, 5), STATE);
    check.dueThrow("4 a wrong number comes before that", () -> map.addVertex(1, 5, 1000), ARGUMENT);
    check.due("4 a call that throws changes nothing", told(map), before);
    check.due("4 the square is that of the first", map.square(1), 0);
    map.choose(1, 4);
    // The fifth stretch goes from 999, 999 to 0, 999; at the zoom 5 from 3996 to 0.
    check.due("4 left of the fifth stretch", map.left(1, 5), 1998 - 30);
    check.due("4 top of the fifth stretch", map.top(1, 5), 3996 - 12);
    map.choose(1, 3);
    check.due("4 a stretch without a length", map.nameFrom(1), 6);
  }

  private void addArea() {
    Cartouche map = new Cartouche();
    check.due("5 least numbers", map.addArea(0, 0, 0, 0, 0, 1, 1), 0);
    check.due("5 greatest numbers", map.addArea(999, 999, 999, 999, 9, 20, 20), 1);
    check.due("5 ordinary numbers", map.addArea(500, 400, 100, 900, 5, 6, 3), 2);
    String before = told(map);
    int[][] wrong = {
      {-1, 0, 0, 0, 0, 1, 1}, {1000, 0, 0, 0, 0, 1, 1}, {0, -1, 0, 0, 0, 1, 1}, {0, 1000, 0, 0, 0, 1, 1},
      {0, 0, -1, 0, 0, 1, 1}, {0, 0, 1000, 0, 0, 1, 1}, {0, 0, 0, -1, 0, 1, 1}, {0, 0, 0, 1000, 0, 1, 1},
      {0, 0, 0, 0, -1, 1, 1}, {0, 0, 0, 0, 10, 1, 1}, {0, 0, 0, 0, 0, 0, 1}, {0, 0, 0, 0, 0, 21, 1},
      {0, 0, 0, 0, 0, 5, 0}, {0, 0, 0, 0, 0, 5, 6}, {0, 0, 0, 0, 0, 21, 21}, {0, 0, MOST, LEAST, 0, 1, 1},
    };
    for (int[] n : wrong) {
      check.dueThrow("5 addArea with a wrong number",
          () -> map.addArea(n[0], n[1], n[2], n[3], n[4], n[5], n[6]), ARGUMENT);
    }
    check.due("5 a call that throws changes nothing", told(map), before);
    check.due("5 the square is that of the first corner", map.square(2), 28);
    check.due("5 its candidates", map.candidates(2), 4);
    check.due("5 seenFrom", map.seenFrom(2), 0);
    check.due("5 its candidate", map.candidateOf(2), -1);
    check.due("5 cost", map.cost(), (1 + 10 + 6) * 6 * 20 + 3 * 16L);
  }

  private void addingAtTheLimit() {
    Cartouche map = new Cartouche();
    for (int i = 0; i < 24; i++) {
      check.due("2 the numbers rise", map.addPoint(40 * i, 40 * i, 1, 1, 4, 2), i);
    }
    String before = told(map);
    check.dueThrow("2 the 25th", () -> map.addPoint(0, 0, 0, 0, 1, 1), STATE);
    check.dueThrow("3 the 25th", () -> map.addLine(0, 0, 0, 1, 1), STATE);
    check.dueThrow("5 the 25th", () -> map.addArea(0, 0, 0, 0, 0, 1, 1), STATE);
    check.dueThrow("2 a wrong number comes before that", () -> map.addPoint(0, 0, 10, 0, 1, 1), ARGUMENT);
    check.dueThrow("3 a wrong number comes before that", () -> map.addLine(0, 0, 0, 1, 2), ARGUMENT);
    check.dueThrow("5 a wrong number comes before that", () -> map.addArea(0, 0, 0, -1, 0, 1, 1), ARGUMENT);
    check.due("2 a call that throws changes nothing", told(map), before);
    check.due("6 the last number", map.remove(23), 23);
    check.dueThrow("2 there were 24, though one is gone", () -> map.addPoint(0, 0, 0, 0, 1, 1), STATE);
  }

  private void remove() {
    Cartouche map = threeKinds();
    for (int feature : NO_FEATURES) {
      check.dueThrow("6 no such feature", () -> map.remove(feature), INDEX);
    }
    check.due("6 two are left", map.remove(1), 2);
    check.dueThrow("6 it is gone", () -> map.remove(1), INDEX);
    check.dueThrow("6 gone for all calls", () -> map.candidateOf(1), INDEX);
    check.due("6 its cost is gone", map.cost(), (6 + 7) * 6 * 20 + 2 * 16L);
    check.due("6 its number is not given again", map.addLine(0, 0, 0, 1, 1), 3);
    check.due("6 the first one", map.remove(0), 2);
    check.due("6 the last one", map.remove(3), 1);
    check.due("6 none is left", map.remove(2), 0);
    check.due("6 no cost", map.cost(), 0L);
    check.due("6 the numbers go on", map.addPoint(0, 0, 0, 0, 1, 1), 4);

    // A name in the way of another one, and a symbol.
    Cartouche pair = new Cartouche();
    pair.addPoint(500, 500, 9, 0, 6, 3);
    pair.addPoint(520, 500, 0, 0, 6, 3);
    pair.choose(0, 0);
    check.due("6 a symbol in the way", pair.nameFrom(0), 4);
    check.due("6 it goes", pair.remove(1), 1);
    check.due("6 no symbol in the way", pair.nameFrom(0), 0);
  }

  private void setWish() {
    Cartouche map = threeKinds();
    for (int feature : NO_FEATURES) {
      check.dueThrow("7 no such feature", () -> map.setWish(feature, 10), INDEX);
    }
    check.due("7 0 at first", map.setWish(0, 9), 0);
    check.due("7 the one before", map.setWish(0, 3), 9);
    for (int wish : new int[] {-1, 10, LEAST, MOST}) {
      check.dueThrow("7 out of range", () -> map.setWish(0, wish), ARGUMENT);
    }
    check.due("7 a call that throws changes nothing", map.setWish(0, 0), 3);
    check.due("7 the others stay", map.setWish(1, 0), 0);

    // The sums of rank and wish tell who is stronger: of two symbols at a place, the stronger is seen.
    Cartouche pair = new Cartouche();
    pair.addPoint(500, 500, 4, 1, 6, 3);
    pair.addPoint(500, 500, 2, 1, 6, 3);
    check.due("7 the first by rank", pair.seenFrom(0) * 10 + pair.seenFrom(1), 6);
    pair.setWish(1, 2);
    check.due("7 the first by number", pair.seenFrom(0) * 10 + pair.seenFrom(1), 6);
    pair.setWish(1, 3);
    check.due("7 the second by its wish", pair.seenFrom(0) * 10 + pair.seenFrom(1), 60);
    pair.setWish(0, 1);
    check.due("7 the first by number again", pair.seenFrom(0) * 10 + pair.seenFrom(1), 6);
    check.due("7 the wish costs nothing", pair.cost(), (5 + 3) * 120 + 32L);
  }

  private void shift() {
    Cartouche map = threeKinds();
    for (int feature : NO_FEATURES) {
      check.dueThrow("8 no such feature", () -> map.shift(feature, MOST, MOST), INDEX);
    }
    map.choose(1, 0);
    String before = told(map);
    int[][] wrong = {
      {0, 500, 0}, {0, -501, 0}, {0, 0, 500}, {0, 0, -501}, {0, MOST, 0}, {0, LEAST, 0}, {0, 0, MOST}, {0, 0, LEAST},
      {1, -101, 0}, {1, 300, 0}, {1, 0, -101}, {1, 0, 870}, {2, 200, 0}, {2, -301, 0}, {2, 0, 100}, {2, 0, -601},
    };
    for (int[] n : wrong) {
      check.dueThrow("8 out of range", () -> map.shift(n[0], n[1], n[2]), UNSUPPORTED);
    }
    check.due("8 a call that throws changes nothing", told(map), before);
    check.due("8 left before", map.left(1, 5), 1570);
    check.due("8 to the edge, no name changes", map.shift(1, 299, 869), 0);
    check.due("8 left of the middle of 1596 and 3996", map.left(1, 5), (1596 + 3996) / 2 - 30);
    check.due("8 top of the middle of 3876 and 3996", map.top(1, 5), (3876 + 3996) / 2 - 12);
    check.due("8 the square of the first vertex", map.square(1), 8 * 7 + 3);
    check.due("8 by nothing", map.shift(1, 0, 0), 0);
    check.due("8 to the corner", map.shift(0, 499, 499), 0);
    check.due("8 to the other corner", map.shift(0, -999, -999), 0);
    check.due("8 the corner's square", map.square(0), 0);

    Cartouche pair = new Cartouche();
    pair.addPoint(500, 500, 9, 0, 6, 3);
    pair.addPoint(520, 500, 0, 0, 6, 3);
    pair.choose(0, 0);
    check.due("8 the other one's name is seen earlier", pair.shift(1, 0, 100), 1);
    check.due("8 from 0", pair.nameFrom(0), 0);
    check.due("8 and later", pair.shift(1, 0, -100), 1);
    check.due("8 from 4", pair.nameFrom(0), 4);
    pair.choose(1, 0);
    check.due("8 its own name too", pair.shift(1, 479, 0), 2);
    check.due("8 off the screen", pair.nameFrom(1), 6);
  }

  private void turn() {
    Cartouche map = new Cartouche();
    map.addPoint(100, 300, 5, 2, 2, 1);
    map.choose(0, 2);
    for (int turn : new int[] {-1, 4, LEAST, MOST}) {
      check.dueThrow("9 no such turn", () -> map.turn(turn), ARGUMENT);
    }
    // At the zoom 3 a place on the screen is the turned place; the name is 12 wide, from 3 below on.
    dueBox("9 by 0", map, 0, 3, 100 - 6, 300 + 3);
    check.due("9 it was 0", map.turn(1), 0);
    dueBox("9 by 1", map, 0, 3, 699 - 6, 100 + 3);
    check.due("9 it was 1", map.turn(2), 1);
    dueBox("9 by 2", map, 0, 3, 899 - 6, 699 + 3);
    check.due("9 it was 2", map.turn(3), 2);
    dueBox("9 by 3", map, 0, 3, 300 - 6, 899 + 3);
    check.due("9 the square is without a turn", map.square(0), 8 * 2);
    check.due("9 it was 3", map.turn(3), 3);
    dueBox("9 turned before it is rounded", map, 0, 0, 37 - 6, 112 + 3);
    check.due("9 it was 3 again", map.turn(0), 3);
    check.due("9 the place is as it was", map.shift(0, 899, 699), 1);
    check.dueThrow("9 at the corner", () -> map.shift(0, 1, 0), UNSUPPORTED);
  }

  private void dueBox(String what, Cartouche map, int feature, int zoom, int left, int top) {
    check.due(what + ", left", Check.answer(() -> map.left(feature, zoom)), left);
    check.due(what + ", top", Check.answer(() -> map.top(feature, zoom)), top);
  }

  private void lock() {
    Cartouche map = threeKinds();
    for (int feature : NO_FEATURES) {
      check.dueThrow("10 no such feature", () -> map.lock(feature, true), INDEX);
    }
    check.due("10 not at first", map.lock(0, true), false);
    check.due("10 it was", map.lock(0, true), true);
    check.due("10 the others were not", map.lock(1, false), false);
    check.due("10 placing leaves it", map.place(), 2);
    check.due("10 without a candidate", map.candidateOf(0), -1);
    map.improve(500);
    check.due("10 improving leaves it", map.candidateOf(0), -1);
    check.due("10 choosing does not", map.choose(0, 7), -1);
    check.due("10 chosen", map.candidateOf(0), 7);
    check.due("10 it was until now", map.lock(0, false), true);
    check.due("10 not any more", map.lock(0, false), false);
    check.due("10 placed now", map.place(), 1);
    check.due("10 its best", map.candidateOf(0), 0);
  }

  private void features() {
    Cartouche map = new Cartouche();
    check.due("11 none", map.features(), 0);
    for (int i = 1; i <= 24; i++) {
      map.addArea(i, i, i, i, 1, 1, 1);
      check.due("11 added", map.features(), i);
    }
    map.remove(5);
    check.due("11 one is gone", map.features(), 23);
    Check.answer(() -> map.addPoint(-1, 0, 0, 0, 1, 1));
    check.due("11 none came", map.features(), 23);
  }

  private void place() {
    Cartouche map = new Cartouche();
    map.addPoint(500, 500, 5, 2, 6, 3);
    check.due("12 the candidate changes", map.place(), 1);
    check.due("12 the first one is best", map.candidateOf(0), 0);
    check.due("12 nothing changes", map.place(), 0);
    map.choose(0, 5);
    check.due("12 it changes", map.place(), 1);

    // In the upper left corner only what is below and to the right is on the screen.
    Cartouche corner = new Cartouche();
    corner.addPoint(0, 0, 5, 2, 6, 3);
    corner.place();
    check.due("12 below to the right", corner.candidateOf(0), 5);
    // In the middle of the upper edge, the name below comes before those beside it.
    Cartouche edge = new Cartouche();
    edge.addPoint(500, 0, 5, 2, 6, 3);
    edge.place();
    check.due("12 below", edge.candidateOf(0), 2);
    // A zoom costs more than any taste, and the lowest of several that are never seen is taken.
    Cartouche never = new Cartouche();
    never.addArea(0, 0, 1, 1, 0, 20, 20);
    check.due("12 never seen", never.place(), 1);
    check.due("12 the lowest, before none", never.candidateOf(0), 0);
    check.due("12 its cost", never.cost(), 120L);
    // 20 letters are 120 wide, on a screen of 125: only the middle of it has room, or the short form.
    Cartouche wide = new Cartouche();
    wide.addPoint(100, 500, 0, 8, 20, 1);
    wide.place();
    check.due("12 the short form", wide.candidateOf(0), 8);
    check.due("12 its taste", wide.cost(), 8L);
  }

  private void placeAmidOthers() {
    Cartouche map = new Cartouche();
    map.addPoint(500, 500, 3, 0, 6, 6);
    map.addPoint(500, 500, 9, 0, 6, 6);
    check.due("12 both change", map.place(), 2);
    check.due("12 the stronger one first", map.candidateOf(1), 0);
    // The weaker one's symbol is never seen, so that no candidate is worth more than another.
    check.due("12 the weaker one", map.candidateOf(0), 0);
    check.due("12 never seen", map.nameFrom(0), 6);
    map.shift(0, 16, 0);
    // Now its symbol is on the right of the stronger one's: 2 apart at the zoom 0, 16 at the zoom 3.
    check.due("12 both evade", map.place(), 2);
    check.due("12 the stronger one evades the symbol", map.candidateOf(1), 1);
    // The name of 10 places above ends 1 above the symbol's place, where that on the right has begun.
    check.due("12 the weaker one has room below", map.candidateOf(0), 2);
    check.due("12 at no more than its taste", map.cost(), 1 + 2L);
    map.lock(1, true);
    map.choose(1, 0);
    check.due("12 the weaker one alone is placed", map.place(), 1);
    check.due("12 the locked one stays", map.candidateOf(1), 0);
    check.due("12 its name of 36 places has no room at a distance of 32", map.nameFrom(1), 5);
    check.due("12 the weaker one has room on the right now", map.candidateOf(0), 0);
  }

  private void improve() {
    Cartouche map = new Cartouche();
    for (int trials : new int[] {0, -1, 501, LEAST, MOST}) {
      check.dueThrow("13 out of range", () -> map.improve(trials), ARGUMENT);
    }
    map.addPoint(500, 500, 5, 2, 6, 3);
    check.due("13 the first trial", map.improve(1), 1);
    check.due("13 it helps", map.candidateOf(0), 0);
    check.due("13 all others, and none", map.improve(500), 16);
    check.due("13 as many as the trials", map.improve(16), 16);
    check.due("13 no more than the trials", map.improve(15), 15);
    map.choose(0, 7);
    check.due("13 the first one is better", map.improve(1), 1);
    check.due("13 it stays", map.candidateOf(0), 0);
    map.choose(0, -1);
    check.due("13 a round with a change, and one without", map.improve(500), 17 + 16);
    map.lock(0, true);
    map.choose(0, 9);
    check.due("13 locked", map.improve(500), 0);
    check.due("13 it keeps its candidate", map.candidateOf(0), 9);
    map.lock(0, false);
    // The first trial helps, so that the candidate of before is tried as well.
    check.due("13 from the ninth candidate", map.improve(500), 17 + 16);
    check.due("13 the best", map.cost(), 0L);
    map.choose(0, 1);
    map.addPoint(900, 900, 9, 0, 2, 2);
    check.due("13 the stronger one comes first", map.improve(1), 1);
    check.due("13 it got its first candidate", map.candidateOf(1), 0);
    check.due("13 the weaker one waits", map.candidateOf(0), 1);
    check.due("13 17 trials of the stronger, one of the weaker", map.improve(16), 16);
    check.due("13 still waiting", map.candidateOf(0), 1);
    check.due("13 its turn comes", map.improve(17), 17);
    check.due("13 it is better", map.candidateOf(0), 0);
  }

  private void improveRounds() {
    // The placing takes what is best for the stronger one alone; exchanges look at the whole.
    Cartouche map = greedy();
    map.place();
    long placed = map.cost();
    int trials = map.improve(500);
    check.due("13 better than placing", map.cost() < placed, true);
    check.due("13 at least two rounds", trials >= 2 * 16, true);
    long improved = map.cost();
    check.due("13 it ends after a round without a change", map.improve(500), 16 + 10);
    check.due("13 the same", map.cost(), improved);
  }

  /** A point whose best candidate lies where a weaker line's name must stand. */
  private static Cartouche greedy() {
    Cartouche map = new Cartouche();
    map.addPoint(500, 500, 5, 0, 4, 4);
    map.addLine(400, 520, 4, 2, 2);
    map.addVertex(1, 630, 520);
    return map;
  }

  private void choose() {
    Cartouche map = threeKinds();
    for (int feature : NO_FEATURES) {
      check.dueThrow("14 no such feature", () -> map.choose(feature, 100), INDEX);
    }
    int[] counts = {16, 10, 4};
    for (int i = 0; i < 3; i++) {
      int feature = i;
      for (int candidate : new int[] {-2, counts[i], LEAST, MOST}) {
        check.dueThrow("14 no such candidate", () -> map.choose(feature, candidate), ARGUMENT);
      }
      check.due("14 none so far", map.choose(feature, counts[i] - 1), -1);
      check.due("14 the last one", map.candidateOf(feature), counts[i] - 1);
      check.due("14 the one before", map.choose(feature, 0), counts[i] - 1);
      check.due("14 the first one", map.choose(feature, -1), 0);
      check.due("14 none", map.candidateOf(feature), -1);
    }
    check.due("14 a stretch that is not there", map.choose(1, 4), -1);
    check.due("14 is never good", map.nameFrom(1), 6);
    map.lock(0, true);
    check.due("14 also if it is locked", map.choose(0, 3), -1);
    check.due("14 chosen", map.candidateOf(0), 3);
  }

  private void candidates() {
    Cartouche map = threeKinds();
    for (int feature : NO_FEATURES) {
      check.dueThrow("15 no such feature", () -> map.candidates(feature), INDEX);
    }
    check.due("15 of a point", map.candidates(0), 16);
    check.due("15 of a line", map.candidates(1), 10);
    check.due("15 of an area", map.candidates(2), 4);
    map.addVertex(1, 1, 1);
    check.due("15 of a line with more vertices", map.candidates(1), 10);
  }

  private void candidateOf() {
    Cartouche map = threeKinds();
    for (int feature : NO_FEATURES) {
      check.dueThrow("16 no such feature", () -> map.candidateOf(feature), INDEX);
    }
    for (int candidate = -1; candidate < 16; candidate++) {
      map.choose(0, candidate);
      check.due("16 as chosen", map.candidateOf(0), candidate);
      check.due("16 the others have none", map.candidateOf(1), -1);
    }
  }

  private void nameFrom() {
    Cartouche map = threeKinds();
    for (int feature : NO_FEATURES) {
      check.dueThrow("17 no such feature", () -> map.nameFrom(feature), INDEX);
    }
    check.due("17 without a candidate", map.nameFrom(0), 6);

    // The name on the right is 36 wide: 20 places on, there is a weaker point's symbol up to the zoom 3.
    Cartouche pair = new Cartouche();
    pair.addPoint(500, 500, 9, 0, 6, 3);
    pair.addPoint(520, 500, 0, 0, 6, 6);
    pair.choose(0, 0);
    check.due("17 amid a weaker symbol", pair.nameFrom(0), 4);
    pair.choose(0, 8);
    check.due("17 the short one is 18 wide", pair.nameFrom(0), 3);
    // The weaker name on the left, 36 wide, reaches the stronger symbol up to the zoom 3.
    pair.choose(1, 3);
    check.due("17 amid a stronger symbol", pair.nameFrom(1), 5);
    pair.choose(0, -1);
    check.due("17 the stronger name was in its way", pair.nameFrom(1), 4);
    pair.choose(0, 8);
    check.due("17 the weaker name is in nobody's way", pair.nameFrom(0), 3);
    pair.setWish(1, 9);
    check.due("17 of the same strength, the first one", pair.nameFrom(1), 5);
    pair.setWish(1, 9);
    pair.setWish(0, 0);
    pair.addPoint(0, 0, 0, 0, 1, 1);
    check.due("17 never without a candidate", pair.nameFrom(2), 6);
    namesThatTouch();
    namesOnTheEdge();
    namesOfHiddenSymbols();
  }

  private void namesThatTouch() {
    // Areas of 1000 places have names everywhere; the middles tell where. At the zoom 3 names are 6 by 10.
    Cartouche map = new Cartouche();
    map.addArea(400, 400, 600, 600, 5, 1, 1);
    map.addArea(406, 400, 606, 600, 4, 1, 1);
    map.choose(0, 0);
    map.choose(1, 0);
    check.due("17 side by side at the zoom 3", map.nameFrom(1), 3);
    map.shift(1, -1, 0);
    check.due("17 a place in common at the zoom 3", map.nameFrom(1), 4);
    map.shift(1, -5, 10);
    check.due("17 one below the other at the zoom 3", map.nameFrom(1), 3);
    map.shift(1, 0, -1);
    check.due("17 a place in common again", map.nameFrom(1), 4);
    map.shift(1, 0, -9);
    check.due("17 always", map.nameFrom(1), 6);
    map.setWish(1, 2);
    check.due("17 now the other one", map.nameFrom(0) * 10 + map.nameFrom(1), 60);
    map.choose(1, -1);
    check.due("17 a name that is not there", map.nameFrom(0), 0);
  }

  private void namesOnTheEdge() {
    // At the zoom 5, the name above of a point at the y of 11 less 1 has the upper end 0 of the screen.
    Cartouche map = new Cartouche();
    map.addPoint(500, 11, 5, 0, 1, 1);
    map.choose(0, 1);
    check.due("17 from the zoom 3 on", map.nameFrom(0), 3);
    check.due("17 at the upper edge", map.top(0, 3), 0);
    map.shift(0, 0, -1);
    check.due("17 above it at the zoom 3", map.nameFrom(0), 4);
    map.shift(0, -500, 490);
    map.choose(0, 3);
    check.due("17 left of the screen", map.nameFrom(0), 6);
    map.shift(0, 6, 0);
    check.due("17 at the left edge at the zoom 3", map.nameFrom(0), 3);
    map.shift(0, 993 - 6, 0);
    map.choose(0, 0);
    check.due("17 at the right edge at the zoom 3", map.nameFrom(0), 3);
    map.shift(0, 1, 0);
    check.due("17 beyond it at the zoom 3", map.nameFrom(0), 4);
    map.shift(0, -494, 489);
    map.choose(0, 2);
    check.due("17 at the lower edge at the zoom 3", map.nameFrom(0), 3);
    map.shift(0, 0, 1);
    check.due("17 below it at the zoom 3", map.nameFrom(0), 4);
  }

  private void namesOfHiddenSymbols() {
    Cartouche map = new Cartouche();
    map.addPoint(100, 100, 9, 3, 4, 2);
    map.addPoint(110, 100, 2, 3, 4, 2);
    map.choose(1, 0);
    check.due("17 the symbol", map.seenFrom(1), 3);
    check.due("17 not before its symbol", map.nameFrom(1), 3);
    // A symbol that is not seen is in nobody's way: the name on the right of the first would meet it.
    map.choose(0, 0);
    check.due("17 it meets the symbol from the zoom 3 on", map.nameFrom(0), 5);
    map.shift(1, -10, 0);
    check.due("17 a symbol that is never seen", map.nameFrom(0), 0);
  }

  private void seenFrom() {
    Cartouche map = threeKinds();
    for (int feature : NO_FEATURES) {
      check.dueThrow("18 no such feature", () -> map.seenFrom(feature), INDEX);
    }
    check.due("18 a point alone", map.seenFrom(0), 0);
    check.due("18 a line", map.seenFrom(1), 0);
    check.due("18 an area", map.seenFrom(2), 0);

    // Boxes with the reach 3 touch at a distance of 7, which is reached at the zoom 3.
    Cartouche pair = new Cartouche();
    pair.addPoint(500, 500, 5, 3, 4, 2);
    pair.addPoint(507, 500, 4, 3, 4, 2);
    check.due("18 the stronger one", pair.seenFrom(0), 0);
    check.due("18 the weaker one", pair.seenFrom(1), 3);
    pair.shift(1, -1, 0);
    check.due("18 a place in common", pair.seenFrom(1), 4);
    pair.shift(1, -6, 7);
    check.due("18 below", pair.seenFrom(1), 3);
    pair.shift(1, 0, -1);
    check.due("18 a place in common again", pair.seenFrom(1), 4);
    pair.shift(1, 0, -6);
    check.due("18 at the same place", pair.seenFrom(1), 6);

    // The second is seen from 4 on, where it hides the third, which would be seen from 3 on without it.
    Cartouche row = new Cartouche();
    row.addPoint(500, 500, 9, 8, 4, 2);
    row.addPoint(510, 500, 5, 8, 4, 2);
    row.addPoint(518, 500, 0, 8, 4, 2);
    check.due("18 the second", row.seenFrom(1), 4);
    check.due("18 in it and in all greater ones", row.seenFrom(2), 5);
    row.remove(1);
    check.due("18 without the second", row.seenFrom(2), 3);

    // What is never seen hides nothing.
    Cartouche hidden = new Cartouche();
    hidden.addPoint(500, 500, 9, 0, 4, 2);
    hidden.addPoint(500, 500, 5, 8, 4, 2);
    hidden.addPoint(502, 500, 0, 0, 4, 2);
    check.due("18 never seen", hidden.seenFrom(1), 6);
    check.due("18 not hidden by that", hidden.seenFrom(2), 2);
  }

  private void cost() {
    Cartouche map = threeKinds();
    check.due("19 without candidates", map.cost(), (6 + 5 + 7) * 6 * 20 + 3 * 16L);
    map.choose(0, 7);
    check.due("19 the last taste of the long form", map.cost(), (5 + 7) * 120 + 32L + 7);
    map.choose(0, 8);
    check.due("19 the first taste of the short form", map.cost(), (5 + 7) * 120 + 32L + 8);
    map.choose(0, 15);
    check.due("19 the last taste of a point", map.cost(), (5 + 7) * 120 + 32L + 15);
    map.choose(1, 9);
    check.due("19 the last taste of a line, not good", map.cost(), (5 + 7) * 120 + 16L + 15 + 12);
    map.choose(2, 3);
    check.due("19 the last taste of an area", map.cost(), 5 * 120L + 15 + 12 + 9);
    map.choose(2, 2);
    check.due("19 the short form of an area", map.cost(), 5 * 120L + 15 + 12 + 8);
    map.setWish(1, 9);
    check.due("19 a wish costs nothing", map.cost(), 5 * 120L + 15 + 12 + 8);
    Cartouche pair = new Cartouche();
    pair.addPoint(500, 500, 9, 0, 6, 3);
    pair.addPoint(520, 500, 0, 0, 6, 3);
    pair.choose(0, 0);
    check.due("19 seen from the zoom 4 on", pair.cost(), 10 * 4 * 20 + 120L + 16);
  }

  private void leastCost() {
    Cartouche map = new Cartouche();
    check.due("20 no features", map.leastCost(), 0L);
    map.addPoint(100, 500, 5, 2, 6, 3);
    check.due("20 one point", map.leastCost(), 0L);
    map.addPoint(500, 500, 5, 2, 6, 3);
    map.addArea(300, 600, 800, 900, 6, 3, 3);
    check.due("20 17 times 17 times 5 placements", map.leastCost(), 0L);
    check.due("20 nothing is changed", map.cost(), (6 + 6 + 7) * 120L + 48);
    check.due("20 no candidate is", map.candidateOf(0), -1);
    check.due("20 no name is", map.nameFrom(0), 6);
    map.addLine(0, 0, 0, 1, 1);
    check.dueThrow("20 too many", map::leastCost, UNSUPPORTED);
    map.lock(3, true);
    check.due("20 with a locked one", map.leastCost(), 136L);
    map.lock(3, false);
    map.lock(2, true);
    check.dueThrow("20 17 times 17 times 11", map::leastCost, UNSUPPORTED);
    for (int feature = 0; feature < 4; feature++) {
      map.lock(feature, true);
    }
    check.due("20 all are locked", map.leastCost(), (6 + 6 + 7 + 1) * 120L + 64);

    Cartouche areas = new Cartouche();
    for (int i = 0; i < 4; i++) {
      areas.addArea(0, 0, 0, 0, 0, 1, 1);
      areas.addLine(0, 0, 0, 1, 1);
    }
    areas.lock(5, true);
    areas.lock(7, true);
    areas.lock(4, true);
    areas.lock(6, true);
    check.dueThrow("20 3025 placements", areas::leastCost, UNSUPPORTED);
    areas.lock(0, true);
    check.due("20 605 placements", areas.leastCost(), 8 * 120L + 5 * 16);
    areas.lock(1, true);
    areas.lock(3, true);
    areas.lock(4, false);
    areas.lock(6, false);
    areas.lock(0, false);
    check.due("20 625 placements", areas.leastCost(), 8 * 120L + 4 * 16);
    areas.lock(1, false);
    check.dueThrow("20 6875 placements", areas::leastCost, UNSUPPORTED);
  }

  private void leastCostBelowPlacing() {
    Cartouche map = greedy();
    map.place();
    long placed = map.cost();
    long least = map.leastCost();
    check.due("20 below placing", least < placed, true);
    check.due("20 nothing is changed", map.cost(), placed);
    long tried = Long.MAX_VALUE;
    for (int point = -1; point < 16; point++) {
      // All of them would be too many calls for one object.
      Cartouche other = greedy();
      other.choose(0, point);
      for (int line = -1; line < 10; line++) {
        other.choose(1, line);
        tried = Math.min(tried, other.cost());
      }
    }
    check.due("20 all placements tried by hand", least, tried);
  }

  private void leftAndTopOfPoints() {
    Cartouche map = new Cartouche();
    map.addPoint(500, 500, 0, 2, 6, 3);
    int[] lefts = {503, 482, 482, 462, 503, 503, 462, 462, 503, 491, 491, 480, 503, 503, 480, 480};
    int[] tops = {495, 487, 503, 495, 487, 503, 487, 503};
    for (int candidate = 0; candidate < 16; candidate++) {
      map.choose(0, candidate);
      dueBox("21 and 22, candidate " + candidate, map, 0, 3, lefts[candidate], tops[candidate % 8]);
    }
    map.choose(0, 0);
    // The place 500 is at 62 and a half of the zoom 0, which is rounded down.
    dueBox("21 and 22, zoom 0", map, 0, 0, 62 + 3, 62 - 5);
    dueBox("21 and 22, zoom 1", map, 0, 1, 125 + 3, 125 - 5);
    dueBox("21 and 22, zoom 5", map, 0, 5, 2000 + 3, 2000 - 5);
  }

  private void leftAndTopOfLines() {
    Cartouche map = new Cartouche();
    map.addLine(400, 500, 5, 1, 1);
    map.addVertex(0, 406, 500);
    map.addVertex(0, 411, 500);
    map.addVertex(0, 411, 507);
    map.choose(0, 0);
    check.due("21 as long as the name at the zoom 3", map.nameFrom(0), 3);
    dueBox("21 and 22, first stretch", map, 0, 3, 400, 488);
    map.choose(0, 1);
    check.due("21 shorter than the name at the zoom 3", map.nameFrom(0), 4);
    dueBox("21 and 22, second stretch", map, 0, 4, 817 - 3, 1000 - 12);
    map.choose(0, 2);
    // The middle of 500 and 507 is rounded down.
    dueBox("21 and 22, third stretch", map, 0, 3, 411 - 3, 503 - 12);
    map.choose(0, 7);
    dueBox("21 and 22, third stretch, short", map, 0, 3, 411 - 3, 503 - 12);
    Cartouche slant = new Cartouche();
    slant.addLine(500, 500, 5, 1, 1);
    slant.addVertex(0, 504, 504);
    slant.choose(0, 0);
    // 4 and 4 are less than 6 long, 8 and 8 are more.
    check.due("21 a slant stretch", slant.nameFrom(0), 4);
    slant.addVertex(0, 509, 508);
    slant.choose(0, 1);
    // 5 and 4 are longer than 6, at the zoom 2 there are 2 and 2.
    check.due("21 a longer slant stretch", slant.nameFrom(0), 3);
    dueBox("21 and 22, slant", slant, 0, 3, 506 - 3, 506 - 12);
  }

  private void leftAndTopOfAreas() {
    Cartouche map = new Cartouche();
    map.addArea(406, 410, 400, 400, 5, 1, 1);
    map.choose(0, 0);
    check.due("21 as large as the name at the zoom 3", map.nameFrom(0), 3);
    dueBox("21 and 22, area", map, 0, 3, 400, 400);
    map.remove(0);
    map.addArea(400, 400, 406, 409, 5, 1, 1);
    map.choose(1, 0);
    // The middle of 400 and 409 is rounded down, so that the name begins at 399.
    check.due("21 beyond the upper edge at the zoom 3", map.nameFrom(1), 4);
    dueBox("21 and 22, a lower area", map, 1, 4, 803, 804);
    map.remove(1);
    map.addArea(200, 700, 300, 800, 5, 5, 2);
    map.choose(2, 0);
    dueBox("21 and 22, in one line", map, 2, 3, 250 - 15, 750 - 5);
    map.choose(2, 1);
    dueBox("21 and 22, in two lines", map, 2, 3, 250 - 9, 750 - 10);
    map.choose(2, 2);
    dueBox("21 and 22, short in one line", map, 2, 3, 250 - 6, 750 - 5);
    map.choose(2, 3);
    dueBox("21 and 22, short in two lines", map, 2, 3, 250 - 3, 750 - 10);
    // At the zoom 0 the area has 13 by 13 places: only the short form in one line fits there.
    check.due("17 20 high", map.nameFrom(2), 1);
    map.choose(2, 2);
    check.due("17 12 wide", map.nameFrom(2), 0);
    map.choose(2, 0);
    check.due("17 30 wide", map.nameFrom(2), 2);
    map.choose(2, 1);
    check.due("17 18 wide, 20 high", map.nameFrom(2), 1);
  }

  private void leftAndTopThrow() {
    Cartouche map = threeKinds();
    map.choose(0, 0);
    map.addPoint(520, 500, 0, 0, 6, 3);
    map.choose(3, 0);
    for (int feature : new int[] {-1, 4, LEAST, MOST}) {
      check.dueThrow("21 no such feature", () -> map.left(feature, 9), INDEX);
      check.dueThrow("22 no such feature", () -> map.top(feature, 9), INDEX);
    }
    for (int zoom : NO_ZOOMS) {
      check.dueThrow("21 no such zoom", () -> map.left(0, zoom), ARGUMENT);
      check.dueThrow("22 no such zoom", () -> map.top(0, zoom), ARGUMENT);
      check.dueThrow("21 no such zoom, no candidate", () -> map.left(1, zoom), ARGUMENT);
      check.dueThrow("22 no such zoom, no candidate", () -> map.top(1, zoom), ARGUMENT);
    }
    for (int i = 0; i < 6; i++) {
      int zoom = i;
      check.dueThrow("21 no candidate", () -> map.left(1, zoom), NO_ELEMENT);
      check.dueThrow("22 no candidate", () -> map.top(1, zoom), NO_ELEMENT);
    }
    // The name of 36 places, from 3 to the right on, reaches the other symbol up to the zoom 3.
    check.due("21 from the zoom 4 on", map.nameFrom(0), 4);
    check.dueThrow("21 not seen yet", () -> map.left(0, 3), NO_ELEMENT);
    check.dueThrow("22 not seen yet", () -> map.top(0, 3), NO_ELEMENT);
    dueBox("21 and 22, seen", map, 0, 4, 1003, 995);
  }

  private void widthOf() {
    Cartouche map = threeKinds();
    map.addArea(0, 0, 0, 0, 0, 19, 13);
    for (int feature : new int[] {-1, 4, LEAST, MOST}) {
      check.dueThrow("23 no such feature", () -> map.widthOf(feature), INDEX);
    }
    for (int i = 0; i < 4; i++) {
      int feature = i;
      check.dueThrow("23 no candidate", () -> map.widthOf(feature), NO_ELEMENT);
    }
    dueWidths(map, 0, new int[] {36, 36, 36, 36, 36, 36, 36, 36, 18, 18, 18, 18, 18, 18, 18, 18});
    dueWidths(map, 1, new int[] {60, 60, 60, 60, 60, 30, 30, 30, 30, 30});
    dueWidths(map, 2, new int[] {72, 36, 36, 18});
    // It is never seen, but has a width; the half of an odd number of letters is rounded up.
    dueWidths(map, 3, new int[] {114, 60, 78, 42});
  }

  private void dueWidths(Cartouche map, int feature, int[] widths) {
    for (int candidate = 0; candidate < widths.length; candidate++) {
      map.choose(feature, candidate);
      check.due("23 of " + feature + ", " + candidate, map.widthOf(feature), widths[candidate]);
    }
  }

  private void nameAt() {
    Cartouche map = threeKinds();
    for (int zoom : NO_ZOOMS) {
      check.dueThrow("24 no such zoom", () -> map.nameAt(0, 0, zoom), ARGUMENT);
    }
    map.choose(0, 0);
    map.choose(2, 1);
    // The name of the point at the zoom 3: 36 by 10 places from 503, 495 on.
    check.due("24 upper left", map.nameAt(503, 495, 3), 0);
    check.due("24 lower right", map.nameAt(538, 504, 3), 0);
    check.due("24 amid", map.nameAt(520, 500, 3), 0);
    int[][] outside = {
      {502, 495}, {503, 494}, {539, 504}, {538, 505}, {0, 0}, {-1, -1}, {LEAST, 500}, {MOST, 500}, {520, LEAST},
      {520, MOST}, {LEAST, LEAST}, {MOST, MOST}, {1000, 1000},
    };
    for (int[] at : outside) {
      check.dueThrow("24 outside", () -> map.nameAt(at[0], at[1], 3), NO_ELEMENT);
    }
    // The middle of the area at the zoom 3 is 550, 750; in two lines the name is 36 by 20.
    check.due("24 of the area", map.nameAt(532, 740, 3), 2);
    check.due("24 of the area, below", map.nameAt(567, 759, 3), 2);
    check.dueThrow("24 below the area's name", () -> map.nameAt(567, 760, 3), NO_ELEMENT);
    // It is in its area from the zoom 0 on, where that has the places 37 to 100 and 75 to 112.
    check.due("24 of the area at the zoom 0", map.nameAt(68, 93, 0), 2);
    map.choose(2, -1);
    check.dueThrow("24 without a candidate", () -> map.nameAt(532, 740, 3), NO_ELEMENT);
    map.addPoint(520, 500, 0, 0, 6, 3);
    check.dueThrow("24 not seen in that zoom", () -> map.nameAt(503, 495, 3), NO_ELEMENT);
    check.due("24 seen in the next one", map.nameAt(1003, 995, 4), 0);
  }

  private void namesIn() {
    Cartouche map = new Cartouche();
    map.addPoint(500, 500, 5, 2, 6, 3);
    map.choose(0, 0);
    for (int zoom : NO_ZOOMS) {
      check.dueThrow("25 no such zoom", () -> map.namesIn(zoom, 0, 0), ARGUMENT);
    }
    // At the zoom 3, 503 to 538 and 495 to 504: the tiles 7 and 8 along x, the tile 7 along y.
    check.due("25 the left tile", map.namesIn(3, 7, 7), 1);
    check.due("25 the right tile", map.namesIn(3, 8, 7), 1);
    check.due("25 the tile before", map.namesIn(3, 6, 7), 0);
    check.due("25 the tile behind", map.namesIn(3, 9, 7), 0);
    check.due("25 the tile above", map.namesIn(3, 7, 6), 0);
    check.due("25 the tile below", map.namesIn(3, 7, 8), 0);
    check.due("25 six tiles are drawn", map.drawn(), 6);
    int[] across = {2, 4, 8, 16, 32, 63};
    for (int zoom = 0; zoom < 6; zoom++) {
      int last = across[zoom] - 1;
      int before = map.drawn();
      check.due("25 outside", map.namesIn(zoom, last + 1, 0), 0);
      check.due("25 outside", map.namesIn(zoom, 0, last + 1), 0);
      check.due("25 outside", map.namesIn(zoom, -1, 0), 0);
      check.due("25 outside", map.namesIn(zoom, 0, -1), 0);
      check.due("25 outside", map.namesIn(zoom, LEAST, MOST), 0);
      check.due("25 nothing is drawn outside", map.drawn(), before);
      // At the zoom 0 the name has the places 65 to 100 and 57 to 66.
      check.due("25 the last tile", map.namesIn(zoom, last, last), zoom == 0 ? 1 : 0);
      check.due("25 the last tile is drawn", map.drawn(), before + 1);
    }
    // A name seen from the zoom 4 on is in no tile of a smaller one.
    map.addPoint(520, 500, 0, 0, 6, 3);
    check.due("25 not seen", map.namesIn(3, 7, 7), 0);
    check.due("25 seen", map.namesIn(4, 15, 15), 1);
    nameAtTheEndOfATile();
  }

  private void nameAtTheEndOfATile() {
    Cartouche map = new Cartouche();
    // At the zoom 3 the name above has 6 places from 122 on and 10 from 118 on: it ends with the tile.
    map.addPoint(125, 129, 5, 0, 1, 1);
    map.choose(0, 1);
    check.due("25 in the tile", map.namesIn(3, 1, 1), 1);
    check.due("25 not in the next one", map.namesIn(3, 2, 1), 0);
    check.due("25 not in the one below", map.namesIn(3, 1, 2), 0);
    map.shift(0, 1, 0);
    check.due("25 now in the next one", map.namesIn(3, 2, 1), 1);
    map.shift(0, 5, 1);
    check.due("25 not in the first one any more", map.namesIn(3, 1, 1), 0);
    check.due("25 now in that below", map.namesIn(3, 2, 2), 1);
  }

  private void nameIn() {
    Cartouche map = new Cartouche();
    map.addPoint(500, 500, 2, 0, 1, 1);
    map.addPoint(500, 460, 7, 0, 1, 1);
    map.addPoint(480, 480, 2, 0, 1, 1);
    map.place();
    for (int zoom : NO_ZOOMS) {
      check.dueThrow("26 no such zoom", () -> map.nameIn(zoom, 0, 0, -1), ARGUMENT);
    }
    check.dueThrow("26 the index is too great", () -> map.nameIn(3, 7, 7, 3), NO_ELEMENT);
    check.dueThrow("26 the index is too small", () -> map.nameIn(3, 7, 7, -1), NO_ELEMENT);
    check.dueThrow("26 the least index", () -> map.nameIn(3, 7, 7, LEAST), NO_ELEMENT);
    check.dueThrow("26 the greatest index", () -> map.nameIn(3, 7, 7, MOST), NO_ELEMENT);
    check.dueThrow("26 outside", () -> map.nameIn(3, 16, 0, 0), NO_ELEMENT);
    check.dueThrow("26 outside", () -> map.nameIn(3, -1, MOST, 0), NO_ELEMENT);
    check.due("26 a call that throws draws nothing", map.drawn(), 0);
    check.due("26 the strongest one", map.nameIn(3, 7, 7, 0), 1);
    check.due("26 the next one", map.nameIn(3, 7, 7, 1), 0);
    check.due("26 the third one", map.nameIn(3, 7, 7, 2), 2);
    check.dueThrow("26 no more", () -> map.nameIn(3, 7, 7, 3), NO_ELEMENT);
    check.due("26 the tile was kept", map.drawn(), 1);
    check.due("26 kept also for the number", map.namesIn(3, 7, 7), 3);
    check.due("26 still", map.drawn(), 1);
    map.setWish(2, 9);
    check.due("26 the wish counts", map.nameIn(3, 7, 7, 0), 2);
    check.due("26 drawn anew", map.drawn(), 2);
    map.remove(1);
    check.due("26 the next one now", map.nameIn(3, 7, 7, 1), 0);
    check.dueThrow("26 two are left", () -> map.nameIn(3, 7, 7, 2), NO_ELEMENT);
  }

  private void drawn() {
    Cartouche map = threeKinds();
    map.place();
    check.due("27 none", map.drawn(), 0);
    map.namesIn(5, 0, 0);
    check.due("27 one", map.drawn(), 1);
    map.namesIn(5, 0, 0);
    check.due("27 the same", map.drawn(), 1);
    map.namesIn(4, 0, 0);
    map.namesIn(5, 1, 0);
    map.namesIn(5, 0, 1);
    check.due("27 three others", map.drawn(), 4);
    // Of all tiles of the first zooms, none may stand for another one.
    Cartouche all = new Cartouche();
    int tiles = 0;
    for (int zoom = 0; zoom < 4; zoom++) {
      int across = 2 << zoom;
      for (int x = 0; x < across; x++) {
        for (int y = 0; y < across; y++) {
          all.namesIn(zoom, x, y);
          tiles++;
        }
      }
    }
    check.due("27 each tile for itself", all.drawn(), tiles);
  }

  private void tilesAreDropped() {
    Cartouche map = threeKinds();
    map.place();
    dueDrop(map, "what changes nothing", 0, () -> { });
    dueDrop(map, "addPoint", 1, () -> map.addPoint(0, 0, 0, 0, 1, 1));
    dueDrop(map, "addLine", 1, () -> map.addLine(0, 0, 0, 1, 1));
    dueDrop(map, "addVertex", 1, () -> map.addVertex(1, 0, 0));
    dueDrop(map, "addArea", 1, () -> map.addArea(0, 0, 0, 0, 0, 1, 1));
    dueDrop(map, "remove", 1, () -> map.remove(3));
    dueDrop(map, "setWish", 1, () -> map.setWish(0, 1));
    dueDrop(map, "setWish as it was", 1, () -> map.setWish(0, 1));
    dueDrop(map, "shift", 1, () -> map.shift(0, 1, 1));
    dueDrop(map, "shift by nothing", 1, () -> map.shift(0, 0, 0));
    dueDrop(map, "turn", 1, () -> map.turn(1));
    dueDrop(map, "turn as it was", 1, () -> map.turn(1));
    dueDrop(map, "place", 1, () -> map.place());
    dueDrop(map, "place as it was", 1, () -> map.place());
    dueDrop(map, "improve", 1, () -> map.improve(1));
    dueDrop(map, "choose", 1, () -> map.choose(0, 1));
    dueDrop(map, "choose as it was", 1, () -> map.choose(0, 1));
    dueDrop(map, "lock", 0, () -> map.lock(0, true));
    dueDrop(map, "leastCost", 0, () -> map.leastCost());
    dueDrop(map, "isConsistent", 0, () -> map.isConsistent());
    dueDrop(map, "a tile outside", 0, () -> map.namesIn(5, 63, 0));
    dueDrop(map, "nameAt", 0, () -> map.nameAt(0, 0, 0));
    dueDrop(map, "addPoint that throws", 0, () -> map.addPoint(-1, 0, 0, 0, 1, 1));
    dueDrop(map, "addVertex that throws", 0, () -> map.addVertex(0, 0, 0));
    dueDrop(map, "remove that throws", 0, () -> map.remove(3));
    dueDrop(map, "setWish that throws", 0, () -> map.setWish(0, 10));
    dueDrop(map, "shift that throws", 0, () -> map.shift(0, 0, 1000));
    dueDrop(map, "turn that throws", 0, () -> map.turn(4));
    dueDrop(map, "improve that throws", 0, () -> map.improve(0));
    dueDrop(map, "choose that throws", 0, () -> map.choose(0, 16));
    Cartouche empty = new Cartouche();
    dueDrop(empty, "place without features", 1, () -> empty.place());
    dueDrop(empty, "improve without features", 1, () -> empty.improve(1));
  }

  private void dueDrop(Cartouche map, String what, int want, Runnable call) {
    map.namesIn(5, 3, 4);
    int before = map.drawn();
    try {
      call.run();
    } catch (RuntimeException e) {
      // Some of the calls are there to throw.
    }
    map.namesIn(5, 3, 4);
    check.due("27 tiles drawn anew after " + what, map.drawn() - before, want);
  }

  private void square() {
    Cartouche map = threeKinds();
    for (int feature : NO_FEATURES) {
      check.dueThrow("28 no such feature", () -> map.square(feature), INDEX);
    }
    check.due("28 of a point", map.square(0), 36);
    check.due("28 of a line", map.square(1), 0);
    check.due("28 of an area", map.square(2), 34);
    map.turn(1);
    check.due("28 without a turn", map.square(2), 34);
    int[][] places = {{0, 0, 0}, {124, 124, 0}, {125, 124, 1}, {124, 125, 8}, {999, 999, 63}, {999, 0, 7}, {0, 999, 56}};
    for (int i = 0; i < places.length; i++) {
      map.addPoint(places[i][0], places[i][1], 0, 0, 1, 1);
      check.due("28 of " + places[i][0] + ", " + places[i][1], map.square(3 + i), places[i][2]);
    }
  }

  private void indexed() {
    Cartouche map = new Cartouche();
    map.addPoint(500, 500, 2, 0, 1, 1);
    map.addLine(0, 0, 9, 1, 1);
    map.addArea(624, 624, 0, 0, 7, 1, 1);
    map.addLine(624, 500, 2, 1, 1);
    map.addVertex(3, 0, 0);
    for (int square : new int[] {-1, 64, LEAST, MOST}) {
      check.dueThrow("29 no such square", () -> map.indexed(square, 0), ARGUMENT);
      check.dueThrow("29 no such square, no such rank", () -> map.indexed(square, -1), ARGUMENT);
    }
    check.due("29 the strongest in the square", map.indexed(36, 0), 2);
    check.due("29 the lower number", map.indexed(36, 1), 0);
    check.due("29 the higher number", map.indexed(36, 2), 3);
    for (int rank : new int[] {-1, 3, 4, LEAST, MOST}) {
      check.dueThrow("29 no such feature", () -> map.indexed(36, rank), NO_ELEMENT);
    }
    check.due("29 the first square", map.indexed(0, 0), 1);
    check.dueThrow("29 a square without features", () -> map.indexed(63, 0), NO_ELEMENT);
    map.turn(2);
    check.due("29 without a turn", map.indexed(0, 0), 1);
    map.setWish(3, 6);
    check.due("29 by the wish", map.indexed(36, 0), 3);
    map.remove(3);
    check.due("29 one is gone", map.indexed(36, 0), 2);
    map.shift(2, 1, 0);
    check.due("29 one has moved", map.indexed(36, 0), 0);
    check.due("29 to the next square", map.indexed(37, 0), 2);
  }

  private void namedShare() {
    Cartouche map = new Cartouche();
    for (int zoom : NO_ZOOMS) {
      check.dueThrow("30 no such zoom", () -> map.namedShare(zoom), ARGUMENT);
    }
    check.dueThrow("30 no features", () -> map.namedShare(0), ARITHMETIC);
    map.addPoint(500, 500, 9, 0, 6, 3);
    check.due("30 none is seen", map.namedShare(5), 0.0f);
    map.addPoint(520, 500, 0, 0, 6, 3);
    map.addPoint(900, 900, 0, 0, 6, 3);
    map.choose(0, 0);
    check.due("30 none yet", map.namedShare(3), 0.0f);
    check.due("30 a third", map.namedShare(4), 1.0f / 3.0f);
    map.choose(1, 2);
    check.due("30 two thirds", map.namedShare(5), 2.0f / 3.0f);
    map.choose(2, 3);
    check.due("30 all", map.namedShare(5), 1.0f);
  }

  private void meanFrom() {
    Cartouche map = new Cartouche();
    check.dueThrow("31 no features", map::meanFrom, ARITHMETIC);
    map.addPoint(500, 500, 9, 0, 6, 3);
    check.due("31 never seen", map.meanFrom(), 6.0);
    map.addPoint(520, 500, 0, 0, 6, 3);
    map.choose(0, 0);
    check.due("31 of 4 and 6", map.meanFrom(), 5.0);
    map.addLine(0, 0, 0, 1, 1);
    check.due("31 of 4, 6 and 6", map.meanFrom(), 16.0 / 3.0);
    map.remove(1);
    map.remove(2);
    check.due("31 of 0", map.meanFrom(), 0.0);
    map.remove(0);
    check.dueThrow("31 no features any more", map::meanFrom, ARITHMETIC);
  }

  private void isConsistent() {
    Cartouche map = new Cartouche();
    check.due("32 without features", map.isConsistent(), true);
    for (int i = 0; i < 24; i++) {
      int x = 400 + 37 * i % 90;
      int y = 400 + 53 * i % 80;
      if (i % 3 == 0) {
        map.addPoint(x, y, i % 10, i % 9, 1 + i % 20, 1);
      } else if (i % 3 == 1) {
        map.addArea(x, y, y, x, i % 10, 1 + i % 20, 1);
      } else {
        map.addLine(x, y, i % 10, 1 + i % 20, 1);
        map.addVertex(i, y, x);
      }
      map.choose(i, i % map.candidates(i));
      check.due("32 with " + i, map.isConsistent(), true);
    }
    for (int turn = 0; turn < 4; turn++) {
      map.turn(turn);
      for (int x = 0; x < 16; x++) {
        map.namesIn(3, x, 7);
      }
      check.due("32 turned by " + turn, map.isConsistent(), true);
      map.place();
      check.due("32 placed", map.isConsistent(), true);
      map.setWish(turn, 9);
      map.improve(100);
      for (int x = 0; x < 16; x++) {
        map.namesIn(3, x, 7);
      }
      check.due("32 improved", map.isConsistent(), true);
    }
  }
}
