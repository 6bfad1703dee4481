import java.util.NoSuchElementException;
import java.util.function.Supplier;

/** Which exception is thrown, also where several conditions hold; and that such a call changes nothing. */
public final class RefusalTest {
  private static final Class<IllegalArgumentException> ARGUMENT = IllegalArgumentException.class;
  private static final Class<IllegalStateException> STATE = IllegalStateException.class;
  private static final Class<IndexOutOfBoundsException> INDEX = IndexOutOfBoundsException.class;
  private static final Class<UnsupportedOperationException> UNSUPPORTED = UnsupportedOperationException.class;
  private static final Class<NoSuchElementException> NO_ELEMENT = NoSuchElementException.class;
  private static final Class<ArithmeticException> ARITHMETIC = ArithmeticException.class;
  private static final int LEAST = Integer.MIN_VALUE;
  private static final int MOST = Integer.MAX_VALUE;
  /** No features of the crowded map: 5 is gone. */
  private static final int[] NO_FEATURES = {-1, 5, 7, 23, 24, LEAST, MOST};
  /** No features of the full map. */
  private static final int[] BEYOND_ALL = {24, 25, -1, LEAST, MOST};
  private static final int[] NO_ZOOMS = {-1, 6, LEAST, MOST};
  private static final int[] NO_PLACES = {-1, 1000, LEAST, MOST};
  private static final int[] NO_RANKS = {-1, 10, LEAST, MOST};
  private static final int[] NO_REACHES = {-1, 9, LEAST, MOST};
  private static final int[] NO_LETTERS = {-1, 0, 21, LEAST, MOST};
  /** With 5 letters in the long form. */
  private static final int[] NO_SHORTERS = {-1, 0, 6, 20, 21, LEAST, MOST};

  private interface Call {
    Object on(Cartouche map);
  }

  private final Check check = new Check();
  private Supplier<Cartouche> start;
  private String untouched;

  public static void main(String[] args) {
    RefusalTest test = new RefusalTest();
    test.from(Story::crowded);
    test.acceptedCallsShow();
    test.noSuchFeature(NO_FEATURES);
    test.noSuchFeatureAndMore(NO_FEATURES);
    test.wrongNumbersOfFeatures();
    test.vertices();
    test.wishesTurnsTrialsChoices();
    test.shifts();
    test.noSuchZoom();
    test.namesThatAreNotThere();
    test.squares();
    test.from(Story::full);
    test.wrongNumbersOfFeatures();
    test.noSuchFeature(BEYOND_ALL);
    test.noSuchFeatureAndMore(BEYOND_ALL);
    test.fullMap();
    test.from(Story::empty);
    test.wrongNumbersOfFeatures();
    test.noSuchFeature(new int[] {0, 1, 23, -1, LEAST, MOST});
    test.noSuchFeatureAndMore(new int[] {0, LEAST, MOST});
    test.emptyMap();
    test.check.end("RefusalTest");
  }

  private void from(Supplier<Cartouche> start) {
    this.start = start;
    untouched = Story.told(start.get());
  }

  private void refused(String what, Class<? extends Exception> want, Call call) {
    Cartouche map = start.get();
    check.dueThrow(what, () -> call.on(map), want);
    check.due(what + ", and then the map tells the same", Story.told(map).equals(untouched), true);
  }

  /** The series that is told must notice what calls change, or it would prove nothing. */
  private void accepted(String what, Call call) {
    Cartouche map = start.get();
    call.on(map);
    check.due(what + " is noticed", Story.told(map).equals(untouched), false);
  }

  private void acceptedCallsShow() {
    accepted("addPoint", map -> map.addPoint(0, 0, 0, 0, 1, 1));
    accepted("addLine", map -> map.addLine(0, 0, 0, 1, 1));
    accepted("addVertex", map -> map.addVertex(3, 5, 5));
    accepted("addArea", map -> map.addArea(0, 0, 0, 0, 0, 1, 1));
    accepted("remove", map -> map.remove(6));
    accepted("setWish", map -> map.setWish(6, 1));
    accepted("setWish as it is", map -> map.setWish(6, 0));
    accepted("shift", map -> map.shift(6, 1, 0));
    accepted("shift by nothing", map -> map.shift(6, 0, 0));
    accepted("turn", map -> map.turn(2));
    accepted("turn as it is", map -> map.turn(1));
    accepted("lock", map -> map.lock(6, true));
    accepted("lock no more", map -> map.lock(3, false));
    accepted("place", map -> map.place());
    accepted("improve", map -> map.improve(1));
    accepted("choose", map -> map.choose(6, 15));
    accepted("choose as it is", map -> map.choose(6, -1));
    accepted("namesIn", map -> map.namesIn(5, 1, 0));
    accepted("nameIn", map -> map.nameIn(0, 1, 1, 0));
  }

  private void noSuchFeature(int[] noFeatures) {
    for (int f : noFeatures) {
      refused("4 addVertex " + f, INDEX, map -> map.addVertex(f, 5, 5));
      refused("6 remove " + f, INDEX, map -> map.remove(f));
      refused("7 setWish " + f, INDEX, map -> map.setWish(f, 5));
      refused("8 shift " + f, INDEX, map -> map.shift(f, 0, 0));
      refused("10 lock " + f, INDEX, map -> map.lock(f, true));
      refused("10 lock no more " + f, INDEX, map -> map.lock(f, false));
      refused("14 choose " + f, INDEX, map -> map.choose(f, 0));
      refused("14 choose none " + f, INDEX, map -> map.choose(f, -1));
      refused("15 candidates " + f, INDEX, map -> map.candidates(f));
      refused("16 candidateOf " + f, INDEX, map -> map.candidateOf(f));
      refused("17 nameFrom " + f, INDEX, map -> map.nameFrom(f));
      refused("18 seenFrom " + f, INDEX, map -> map.seenFrom(f));
      refused("21 left " + f, INDEX, map -> map.left(f, 5));
      refused("22 top " + f, INDEX, map -> map.top(f, 5));
      refused("23 widthOf " + f, INDEX, map -> map.widthOf(f));
      refused("28 square " + f, INDEX, map -> map.square(f));
    }
  }

  /** What is no feature comes first, though another number is wrong as well. */
  private void noSuchFeatureAndMore(int[] noFeatures) {
    for (int f : noFeatures) {
      refused("4 addVertex " + f + ", x", INDEX, map -> map.addVertex(f, 1000, 5));
      refused("4 addVertex " + f + ", y", INDEX, map -> map.addVertex(f, 5, -1));
      refused("4 addVertex " + f + ", both", INDEX, map -> map.addVertex(f, LEAST, MOST));
      refused("7 setWish " + f + ", 10", INDEX, map -> map.setWish(f, 10));
      refused("7 setWish " + f + ", -1", INDEX, map -> map.setWish(f, -1));
      refused("8 shift " + f + " by x", INDEX, map -> map.shift(f, 1000, 0));
      refused("8 shift " + f + " by y", INDEX, map -> map.shift(f, 0, LEAST));
      refused("14 choose " + f + ", -2", INDEX, map -> map.choose(f, -2));
      refused("14 choose " + f + ", 16", INDEX, map -> map.choose(f, 16));
      refused("21 left " + f + ", -1", INDEX, map -> map.left(f, -1));
      refused("21 left " + f + ", 6", INDEX, map -> map.left(f, 6));
      refused("22 top " + f + ", -1", INDEX, map -> map.top(f, -1));
      refused("22 top " + f + ", 6", INDEX, map -> map.top(f, 6));
    }
  }

  /** Of all kinds, in a map that is full too: there a wrong number comes first. */
  private void wrongNumbersOfFeatures() {
    for (int n : NO_PLACES) {
      refused("2 addPoint, x " + n, ARGUMENT, map -> map.addPoint(n, 5, 5, 5, 5, 5));
      refused("2 addPoint, y " + n, ARGUMENT, map -> map.addPoint(5, n, 5, 5, 5, 5));
      refused("3 addLine, x " + n, ARGUMENT, map -> map.addLine(n, 5, 5, 5, 5));
      refused("3 addLine, y " + n, ARGUMENT, map -> map.addLine(5, n, 5, 5, 5));
      refused("5 addArea, x " + n, ARGUMENT, map -> map.addArea(n, 5, 5, 5, 5, 5, 5));
      refused("5 addArea, y " + n, ARGUMENT, map -> map.addArea(5, n, 5, 5, 5, 5, 5));
      refused("5 addArea, other x " + n, ARGUMENT, map -> map.addArea(5, 5, n, 5, 5, 5, 5));
      refused("5 addArea, other y " + n, ARGUMENT, map -> map.addArea(5, 5, 5, n, 5, 5, 5));
    }
    for (int n : NO_RANKS) {
      refused("2 addPoint, rank " + n, ARGUMENT, map -> map.addPoint(5, 5, n, 5, 5, 5));
      refused("3 addLine, rank " + n, ARGUMENT, map -> map.addLine(5, 5, n, 5, 5));
      refused("5 addArea, rank " + n, ARGUMENT, map -> map.addArea(5, 5, 5, 5, n, 5, 5));
    }
    for (int n : NO_REACHES) {
      refused("2 addPoint, reach " + n, ARGUMENT, map -> map.addPoint(5, 5, 5, n, 5, 5));
    }
    for (int n : NO_LETTERS) {
      refused("2 addPoint, letters " + n, ARGUMENT, map -> map.addPoint(5, 5, 5, 5, n, 1));
      refused("3 addLine, letters " + n, ARGUMENT, map -> map.addLine(5, 5, 5, n, 1));
      refused("5 addArea, letters " + n, ARGUMENT, map -> map.addArea(5, 5, 5, 5, 5, n, 1));
      refused("2 addPoint, both letters " + n, ARGUMENT, map -> map.addPoint(5, 5, 5, 5, n, n));
      refused("3 addLine, both letters " + n, ARGUMENT, map -> map.addLine(5, 5, 5, n, n));
      refused("5 addArea, both letters " + n, ARGUMENT, map -> map.addArea(5, 5, 5, 5, 5, n, n));
    }
    for (int n : NO_SHORTERS) {
      refused("2 addPoint, shorter " + n, ARGUMENT, map -> map.addPoint(5, 5, 5, 5, 5, n));
      refused("3 addLine, shorter " + n, ARGUMENT, map -> map.addLine(5, 5, 5, 5, n));
      refused("5 addArea, shorter " + n, ARGUMENT, map -> map.addArea(5, 5, 5, 5, 5, 5, n));
    }
    refused("2 addPoint, 1 letter and 2", ARGUMENT, map -> map.addPoint(5, 5, 5, 5, 1, 2));
    refused("3 addLine, 19 letters and 20", ARGUMENT, map -> map.addLine(5, 5, 5, 19, 20));
    refused("5 addArea, 1 letter and 20", ARGUMENT, map -> map.addArea(5, 5, 5, 5, 5, 1, 20));
    refused("2 addPoint, all numbers", ARGUMENT, map -> map.addPoint(MOST, MOST, MOST, MOST, MOST, MOST));
    refused("3 addLine, all numbers", ARGUMENT, map -> map.addLine(LEAST, LEAST, LEAST, LEAST, LEAST));
    refused("5 addArea, all numbers", ARGUMENT, map -> map.addArea(-1, -1, -1, -1, -1, -1, -1));
  }

  private void vertices() {
    for (int n : NO_PLACES) {
      refused("4 x " + n, ARGUMENT, map -> map.addVertex(3, n, 5));
      refused("4 y " + n, ARGUMENT, map -> map.addVertex(3, 5, n));
      refused("4 x " + n + ", though it has 6 vertices", ARGUMENT, map -> map.addVertex(2, n, 5));
      refused("4 y " + n + ", though it has 6 vertices", ARGUMENT, map -> map.addVertex(2, 5, n));
      refused("4 x " + n + ", though it is a point", ARGUMENT, map -> map.addVertex(0, n, 5));
      refused("4 y " + n + ", though it is a point", ARGUMENT, map -> map.addVertex(0, 5, n));
      refused("4 x " + n + ", though it is an area", ARGUMENT, map -> map.addVertex(4, n, 5));
      refused("4 y " + n + ", though it is an area", ARGUMENT, map -> map.addVertex(4, 5, n));
    }
    refused("4 a point", UNSUPPORTED, map -> map.addVertex(0, 5, 5));
    refused("4 another point", UNSUPPORTED, map -> map.addVertex(6, 0, 999));
    refused("4 an area", UNSUPPORTED, map -> map.addVertex(4, 999, 0));
    refused("4 the seventh", STATE, map -> map.addVertex(2, 5, 5));
    refused("4 the seventh at a corner", STATE, map -> map.addVertex(2, 999, 999));
  }

  private void wishesTurnsTrialsChoices() {
    for (int n : NO_RANKS) {
      refused("7 setWish " + n, ARGUMENT, map -> map.setWish(0, n));
      refused("7 setWish of another " + n, ARGUMENT, map -> map.setWish(4, n));
    }
    for (int n : new int[] {-1, 4, LEAST, MOST}) {
      refused("9 turn " + n, ARGUMENT, map -> map.turn(n));
    }
    for (int n : new int[] {0, -1, 501, LEAST, MOST}) {
      refused("13 improve " + n, ARGUMENT, map -> map.improve(n));
    }
    for (int n : new int[] {-2, 16, LEAST, MOST}) {
      refused("14 choose of a point " + n, ARGUMENT, map -> map.choose(0, n));
      refused("14 choose of a point without a candidate " + n, ARGUMENT, map -> map.choose(6, n));
    }
    for (int n : new int[] {-2, 10, 15, LEAST, MOST}) {
      refused("14 choose of a line " + n, ARGUMENT, map -> map.choose(2, n));
      refused("14 choose of a short line " + n, ARGUMENT, map -> map.choose(3, n));
    }
    for (int n : new int[] {-2, 4, 9, LEAST, MOST}) {
      refused("14 choose of an area " + n, ARGUMENT, map -> map.choose(4, n));
    }
  }

  /** The ends of what is there: a place further by one is out of range. */
  private void shifts() {
    int[][] wrong = {
      // The point 0 is at 500, 500.
      {0, -501, 0}, {0, 500, 0}, {0, 0, -501}, {0, 0, 500}, {0, -501, 500},
      // The line 2 has x from 100 to 800, and y from 100 to 620.
      {2, -101, 0}, {2, 200, 0}, {2, 0, -101}, {2, 0, 380},
      // The line 3 has x from 300 to 400, and y from 300 to 310; the second vertex is above the first.
      {3, -301, 0}, {3, 600, 0}, {3, 0, -301}, {3, 0, 690},
      // The area 4 has x from 300 to 800, and y from 600 to 900.
      {4, -301, 0}, {4, 200, 0}, {4, 0, -601}, {4, 0, 100},
    };
    for (int[] n : wrong) {
      refused("8 shift " + n[0] + " by " + n[1] + ", " + n[2], UNSUPPORTED, map -> map.shift(n[0], n[1], n[2]));
    }
    for (int feature : new int[] {0, 2, 3, 4}) {
      for (int n : new int[] {-1000, 1000, LEAST, LEAST + 1, MOST, MOST - 1}) {
        refused("8 shift " + feature + " by x " + n, UNSUPPORTED, map -> map.shift(feature, n, 0));
        refused("8 shift " + feature + " by y " + n, UNSUPPORTED, map -> map.shift(feature, 0, n));
        refused("8 shift " + feature + " by both " + n, UNSUPPORTED, map -> map.shift(feature, n, n));
      }
    }
  }

  private void noSuchZoom() {
    for (int n : NO_ZOOMS) {
      refused("21 left, zoom " + n, ARGUMENT, map -> map.left(0, n));
      refused("22 top, zoom " + n, ARGUMENT, map -> map.top(0, n));
      refused("21 left without a candidate, zoom " + n, ARGUMENT, map -> map.left(6, n));
      refused("22 top without a candidate, zoom " + n, ARGUMENT, map -> map.top(6, n));
      refused("24 nameAt, zoom " + n, ARGUMENT, map -> map.nameAt(500, 500, n));
      refused("24 nameAt off all screens, zoom " + n, ARGUMENT, map -> map.nameAt(LEAST, MOST, n));
      refused("25 namesIn, zoom " + n, ARGUMENT, map -> map.namesIn(n, 0, 0));
      refused("25 namesIn off all screens, zoom " + n, ARGUMENT, map -> map.namesIn(n, -1, MOST));
      refused("26 nameIn, zoom " + n, ARGUMENT, map -> map.nameIn(n, 0, 0, 0));
      refused("26 nameIn without such a name, zoom " + n, ARGUMENT, map -> map.nameIn(n, 0, 0, 24));
      refused("26 nameIn off all screens, zoom " + n, ARGUMENT, map -> map.nameIn(n, LEAST, MOST, -1));
      refused("30 namedShare, zoom " + n, ARGUMENT, map -> map.namedShare(n));
    }
  }

  private void namesThatAreNotThere() {
    refused("21 left of 0, seen from the zoom 1 on", NO_ELEMENT, map -> map.left(0, 0));
    refused("22 top of 0, seen from the zoom 1 on", NO_ELEMENT, map -> map.top(0, 0));
    for (int i = 0; i < 6; i++) {
      int zoom = i;
      refused("21 left of 6, zoom " + i, NO_ELEMENT, map -> map.left(6, zoom));
      refused("22 top of 6, zoom " + i, NO_ELEMENT, map -> map.top(6, zoom));
      refused("24 nameAt, zoom " + i, NO_ELEMENT, map -> map.nameAt(0, 0, zoom));
      refused("24 nameAt, least numbers, zoom " + i, NO_ELEMENT, map -> map.nameAt(LEAST, LEAST, zoom));
      refused("24 nameAt, greatest numbers, zoom " + i, NO_ELEMENT, map -> map.nameAt(MOST, MOST, zoom));
      refused("26 nameIn, a tile outside, zoom " + i, NO_ELEMENT, map -> map.nameIn(zoom, -1, 0, 0));
      refused("26 nameIn, another outside, zoom " + i, NO_ELEMENT, map -> map.nameIn(zoom, 0, MOST, 0));
    }
    refused("23 widthOf without a candidate", NO_ELEMENT, map -> map.widthOf(6));
    // Whether a tile is kept or not yet drawn, with names in it or without.
    for (int[] tile : new int[][] {{0, 0, 0}, {0, 1, 1}, {3, 7, 7}, {3, 6, 6}, {5, 0, 0}, {5, 1, 1}, {5, 62, 62}}) {
      for (int n : new int[] {-1, 24, LEAST, MOST}) {
        refused("26 nameIn, index " + n + " in the tile " + tile[0] + ", " + tile[1] + ", " + tile[2], NO_ELEMENT,
            map -> map.nameIn(tile[0], tile[1], tile[2], n));
      }
    }
  }

  private void squares() {
    for (int n : new int[] {-1, 64, LEAST, MOST}) {
      refused("29 square " + n, ARGUMENT, map -> map.indexed(n, 0));
      refused("29 square " + n + ", without such a rank", ARGUMENT, map -> map.indexed(n, -1));
      refused("29 square " + n + ", without another", ARGUMENT, map -> map.indexed(n, MOST));
    }
    // 36 has the points 0 and 1; 0 has the line 2, whose number 5 was there too and is gone; 63 has none.
    for (int[] n : new int[][] {{36, -1}, {36, 2}, {36, LEAST}, {36, MOST}, {0, 1}, {0, -1}, {63, 0}, {63, -1}}) {
      refused("29 rank " + n[1] + " in the square " + n[0], NO_ELEMENT, map -> map.indexed(n[0], n[1]));
    }
  }

  private void fullMap() {
    refused("2 the 25th", STATE, map -> map.addPoint(5, 5, 5, 5, 5, 5));
    refused("3 the 25th", STATE, map -> map.addLine(5, 5, 5, 5, 5));
    refused("5 the 25th", STATE, map -> map.addArea(5, 5, 5, 5, 5, 5, 5));
    refused("2 the 25th, least numbers", STATE, map -> map.addPoint(0, 0, 0, 0, 1, 1));
    refused("3 the 25th, least numbers", STATE, map -> map.addLine(0, 0, 0, 1, 1));
    refused("5 the 25th, least numbers", STATE, map -> map.addArea(0, 0, 0, 0, 0, 1, 1));
    refused("2 the 25th, greatest numbers", STATE, map -> map.addPoint(999, 999, 9, 8, 20, 20));
    refused("3 the 25th, greatest numbers", STATE, map -> map.addLine(999, 999, 9, 20, 20));
    refused("5 the 25th, greatest numbers", STATE, map -> map.addArea(999, 999, 999, 999, 9, 20, 20));
    refused("20 leastCost", UNSUPPORTED, map -> map.leastCost());
    refused("29 indexed", NO_ELEMENT, map -> map.indexed(0, 24));
  }

  private void emptyMap() {
    refused("31 meanFrom", ARITHMETIC, map -> map.meanFrom());
    for (int i = 0; i < 6; i++) {
      int zoom = i;
      refused("30 namedShare, zoom " + i, ARITHMETIC, map -> map.namedShare(zoom));
      refused("24 nameAt, zoom " + i, NO_ELEMENT, map -> map.nameAt(0, 0, zoom));
      refused("26 nameIn, zoom " + i, NO_ELEMENT, map -> map.nameIn(zoom, 0, 0, 0));
      refused("26 nameIn of a tile not kept, zoom " + i, NO_ELEMENT, map -> map.nameIn(zoom, 1, 0, 0));
    }
    for (int n : NO_ZOOMS) {
      refused("30 namedShare, zoom " + n, ARGUMENT, map -> map.namedShare(n));
    }
    for (int square = 0; square < 64; square++) {
      int n = square;
      refused("29 indexed, square " + n, NO_ELEMENT, map -> map.indexed(n, 0));
    }
    for (int n : new int[] {0, -1, 501}) {
      refused("13 improve " + n, ARGUMENT, map -> map.improve(n));
    }
    for (int n : new int[] {-1, 4}) {
      refused("9 turn " + n, ARGUMENT, map -> map.turn(n));
    }
  }
}
