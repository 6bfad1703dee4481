/** The least and the greatest numbers that calls take do what they say; those outside are in RefusalTest. */
public final class RangeTest {
  private static final int LEAST = Integer.MIN_VALUE;
  private static final int MOST = Integer.MAX_VALUE;
  private static final int[] PLACES = {0, 1, 499, 998, 999};
  private static final int[] RANKS = {0, 1, 4, 8, 9};
  private static final int[] REACHES = {0, 1, 4, 7, 8};
  private static final int[] LETTERS = {1, 2, 10, 19, 20};

  private final Check check = new Check();

  public static void main(String[] args) {
    RangeTest test = new RangeTest();
    test.placesOfPoints();
    test.placesOfLines();
    test.placesOfVertices();
    test.placesOfAreas();
    test.ranks();
    test.reaches();
    test.letters();
    test.wishes();
    test.shiftsOfPoints();
    test.shiftsOfLinesAndAreas();
    test.turns();
    test.trials();
    test.choices();
    test.zooms();
    test.endsOfScreens();
    test.tiles();
    test.tilesThatWrapAround();
    test.indexes();
    test.squares();
    test.ranksInSquares();
    test.check.end("RangeTest");
  }

  /** A letter with 6 places beside a symbol of one place: at the zoom 5 there is room on one side of each place. */
  private static int choiceTowardsTheMiddle(int x, int y) {
    return x < 500 ? (y < 500 ? 5 : 4) : (y < 500 ? 7 : 6);
  }

  private void duePlace(String what, Cartouche map, int feature, int x, int y) {
    map.choose(feature, choiceTowardsTheMiddle(x, y));
    check.due(what + ", left", map.left(feature, 5), x < 500 ? 4 * x + 1 : 4 * x - 6);
    check.due(what + ", top", map.top(feature, 5), y < 500 ? 4 * y + 1 : 4 * y - 11);
  }

  private void placesOfPoints() {
    for (int x : PLACES) {
      for (int y : PLACES) {
        Cartouche map = new Cartouche();
        check.due("2 a point at " + x + ", " + y, map.addPoint(x, y, 5, 0, 1, 1), 0);
        duePlace("2 a point at " + x + ", " + y, map, 0, x, y);
      }
    }
  }

  private void placesOfLines() {
    for (int x : PLACES) {
      for (int y : PLACES) {
        Cartouche map = new Cartouche();
        check.due("3 a line from " + x + ", " + y, map.addLine(x, y, 5, 1, 1), 0);
        check.due("3 its square", map.square(0), 8 * (y / 125) + x / 125);
        map.addVertex(0, 500, 250);
        map.choose(0, 0);
        check.due("3 left of its middle", map.left(0, 5), (4 * x + 2000) / 2 - 3);
        check.due("3 top of its middle", map.top(0, 5), (4 * y + 1000) / 2 - 12);
      }
    }
  }

  private void placesOfVertices() {
    for (int x : PLACES) {
      for (int y : PLACES) {
        Cartouche map = new Cartouche();
        map.addLine(500, 250, 5, 1, 1);
        check.due("4 a vertex at " + x + ", " + y, map.addVertex(0, x, y), 2);
        map.choose(0, 0);
        check.due("4 left of the middle", map.left(0, 5), (2000 + 4 * x) / 2 - 3);
        check.due("4 top of the middle", map.top(0, 5), (1000 + 4 * y) / 2 - 12);
      }
    }
  }

  private void placesOfAreas() {
    for (int x : PLACES) {
      for (int y : PLACES) {
        Cartouche map = new Cartouche();
        check.due("5 an area from " + x + ", " + y, map.addArea(x, y, 250, 750, 5, 1, 1), 0);
        check.due("5 an area to " + x + ", " + y, map.addArea(750, 250, x, y, 5, 1, 1), 1);
        check.due("5 its square", map.square(0), 8 * (y / 125) + x / 125);
        map.choose(0, 0);
        check.due("5 left, the first corner", map.left(0, 5), (4 * x + 1000) / 2 - 3);
        check.due("5 top, the first corner", map.top(0, 5), (4 * y + 3000) / 2 - 5);
        map.choose(0, -1);
        map.choose(1, 0);
        check.due("5 left, the other corner", map.left(1, 5), (3000 + 4 * x) / 2 - 3);
        check.due("5 top, the other corner", map.top(1, 5), (1000 + 4 * y) / 2 - 5);
      }
    }
  }

  private void ranks() {
    for (int rank : RANKS) {
      Cartouche map = new Cartouche();
      check.due("2 the rank " + rank, map.addPoint(5, 5, rank, 5, 5, 5), 0);
      check.due("2 its cost", map.cost(), (rank + 1) * 6 * 20 + 16L);
      check.due("3 the rank " + rank, map.addLine(5, 5, rank, 5, 5), 1);
      check.due("3 its cost", map.cost(), 2 * ((rank + 1) * 6 * 20 + 16L));
      check.due("5 the rank " + rank, map.addArea(5, 5, 5, 5, rank, 5, 5), 2);
      check.due("5 its cost", map.cost(), 3 * ((rank + 1) * 6 * 20 + 16L));
    }
  }

  private void reaches() {
    for (int reach : REACHES) {
      Cartouche map = new Cartouche();
      check.due("2 the reach " + reach, map.addPoint(500, 500, 5, reach, 1, 1), 0);
      map.choose(0, 5);
      check.due("2 left of what is beyond its reach", map.left(0, 3), 500 + reach + 1);
      map.choose(0, 6);
      check.due("2 left of what is before its reach", map.left(0, 3), 500 - reach - 6);
    }
  }

  private void letters() {
    for (int letters : LETTERS) {
      for (int shorter : LETTERS) {
        if (shorter <= letters) {
          Cartouche map = new Cartouche();
          map.addPoint(500, 500, 5, 0, letters, shorter);
          map.addLine(500, 500, 5, letters, shorter);
          map.addArea(500, 500, 500, 500, 5, letters, shorter);
          int[] halves = {8, 5, 2};
          for (int feature = 0; feature < 3; feature++) {
            String what = (feature == 0 ? "2 " : feature == 1 ? "3 " : "5 ") + letters + " and " + shorter;
            map.choose(feature, halves[feature] - (feature == 2 ? 2 : 1));
            check.due(what + ", the long form", map.widthOf(feature), 6 * letters);
            map.choose(feature, halves[feature]);
            check.due(what + ", the short form", map.widthOf(feature), 6 * shorter);
          }
          map.choose(2, 1);
          check.due("5 the long form of " + letters + " in two lines", map.widthOf(2), 6 * ((letters + 1) / 2));
          map.choose(2, 3);
          check.due("5 the short form of " + shorter + " in two lines", map.widthOf(2), 6 * ((shorter + 1) / 2));
        }
      }
    }
  }

  private void wishes() {
    for (int wish : RANKS) {
      Cartouche map = new Cartouche();
      map.addPoint(5, 5, wish, 0, 1, 1);
      map.addPoint(6, 6, 0, 0, 1, 1);
      map.addPoint(7, 7, wish == 9 ? 9 : wish + 1, 0, 1, 1);
      check.due("7 0 at first", map.setWish(1, wish), 0);
      // As strong as the first one, after which it was added.
      check.due("7 the place in the order with the wish " + wish, map.indexed(0, wish == 9 ? 1 : 2), 1);
      check.due("7 it was " + wish, map.setWish(1, wish), wish);
      check.due("7 it was " + wish + " again", map.setWish(1, 0), wish);
    }
  }

  /** To each end of the places, and back. */
  private void shiftsOfPoints() {
    Cartouche map = new Cartouche();
    map.addPoint(500, 300, 5, 0, 1, 1);
    int[][] steps = {{-500, 0}, {999, 0}, {-999, 0}, {999, 0}, {0, -300}, {0, 999}, {0, -999}, {-999, 999}, {999, -999},
        {-999, 0}, {999, 999}, {-999, -999}, {0, 0}};
    int x = 500;
    int y = 300;
    for (int[] step : steps) {
      x += step[0];
      y += step[1];
      map.shift(0, step[0], step[1]);
      check.due("8 the square of a point moved to " + x + ", " + y, map.square(0), 8 * (y / 125) + x / 125);
      duePlace("8 a point moved to " + x + ", " + y, map, 0, x, y);
    }
  }

  private void shiftsOfLinesAndAreas() {
    Cartouche map = new Cartouche();
    map.addLine(100, 400, 5, 1, 1);
    map.addVertex(0, 800, 450);
    map.addVertex(0, 600, 150);
    map.addArea(800, 150, 100, 450, 5, 1, 1);
    // x is from 100 to 800, and y from 150 to 450: by turns to all ends.
    int[][] steps = {{-100, 0}, {299, 0}, {-299, -150}, {0, 699}, {299, 0}, {-299, -699}, {299, 699}};
    int dx = 0;
    int dy = 0;
    for (int[] step : steps) {
      dx += step[0];
      dy += step[1];
      for (int feature = 0; feature < 2; feature++) {
        map.choose(feature, -1);
        map.shift(feature, step[0], step[1]);
      }
      String what = "8 moved by " + dx + ", " + dy + " in all: ";
      for (int stretch = 0; stretch < 2; stretch++) {
        map.choose(0, stretch);
        check.due(what + "left", map.left(0, 5), (stretch == 0 ? 1800 : 2800) + 4 * dx - 3);
        check.due(what + "top", map.top(0, 5), (stretch == 0 ? 1700 : 1200) + 4 * dy - 12);
      }
      map.choose(0, -1);
      map.choose(1, 0);
      check.due(what + "left of the area", map.left(1, 5), 1800 + 4 * dx - 3);
      check.due(what + "top of the area", map.top(1, 5), 1200 + 4 * dy - 5);
    }
  }

  private void turns() {
    Cartouche map = new Cartouche();
    for (int turn = 0; turn < 4; turn++) {
      map.turn(turn);
      check.due("9 it was " + turn, map.turn(turn), turn);
      check.due("9 it is still " + turn, map.turn(turn), turn);
    }
    check.due("9 from the greatest to the least", map.turn(0), 3);
    check.due("9 from the least to the greatest", map.turn(3), 0);
  }

  private void trials() {
    for (int trials : new int[] {1, 2, 15, 16}) {
      Cartouche map = new Cartouche();
      map.addPoint(500, 500, 5, 0, 1, 1);
      map.choose(0, 0);
      check.due("13 all of " + trials, map.improve(trials), trials);
    }
    for (int trials : new int[] {17, 499, 500}) {
      Cartouche map = new Cartouche();
      map.addPoint(500, 500, 5, 0, 1, 1);
      map.choose(0, 0);
      check.due("13 a round without a change ends " + trials, map.improve(trials), 16);
    }
    // One round has 24 times 17 trials, so that the last ones of 500 are in the second round.
    Cartouche full = new Cartouche();
    for (int i = 0; i < 24; i++) {
      full.addPoint(160 * (i % 6) + 80, 240 * (i / 6) + 80, 5, 0, 1, 1);
    }
    check.due("13 the greatest number of trials", full.improve(500), 500);
    check.due("13 one less", full.improve(499), 384);
  }

  private void choices() {
    Cartouche map = new Cartouche();
    map.addPoint(500, 500, 5, 0, 1, 1);
    map.addLine(500, 500, 5, 1, 1);
    map.addArea(500, 500, 500, 500, 5, 1, 1);
    int[] counts = {16, 10, 4};
    for (int feature = 0; feature < 3; feature++) {
      check.due("15 candidates of " + feature, map.candidates(feature), counts[feature]);
      int before = -1;
      for (int candidate : new int[] {0, 1, counts[feature] - 2, counts[feature] - 1, -1, -1, counts[feature] - 1, 0, -1}) {
        check.due("14 of " + feature + " before " + candidate, map.choose(feature, candidate), before);
        check.due("16 of " + feature + ", " + candidate, map.candidateOf(feature), candidate);
        before = candidate;
      }
    }
  }

  private void zooms() {
    Cartouche map = new Cartouche();
    map.addPoint(500, 500, 5, 0, 1, 1);
    map.choose(0, 5);
    int[] places = {62, 125, 250, 500, 1000, 2000};
    for (int zoom = 0; zoom < 6; zoom++) {
      int first = places[zoom] + 1;
      check.due("21 at the zoom " + zoom, map.left(0, zoom), first);
      check.due("22 at the zoom " + zoom, map.top(0, zoom), first);
      check.due("24 at the zoom " + zoom, map.nameAt(first, first, zoom), 0);
      check.due("25 at the zoom " + zoom, map.namesIn(zoom, first / 64, first / 64), 1);
      check.due("26 at the zoom " + zoom, map.nameIn(zoom, first / 64, first / 64, 0), 0);
      check.due("30 at the zoom " + zoom, map.namedShare(zoom), 1.0f);
    }
  }

  /** A name may end with the screen, but no place beyond it. */
  private void endsOfScreens() {
    int[] sizes = {125, 250, 500, 1000, 2000, 4000};
    for (int zoom = 0; zoom < 6; zoom++) {
      int size = sizes[zoom];
      int middle = size / 2;
      // The symbol's reach is chosen so that a place of the map is just there, at the great zooms too.
      dueEnd("left", zoom, 8, middle, 2, 3, 0, middle);
      dueEnd("right", zoom, size - 8, middle, 1, 0, size - 1, middle);
      dueEnd("upper", zoom, middle, 12, 1, 1, middle, 0);
      dueEnd("lower", zoom, middle, size - 12, 1, 2, middle, size - 1);
    }
  }

  private void dueEnd(String end, int zoom, int x, int y, int reach, int candidate, int endX, int endY) {
    String what = "the " + end + " end of the zoom " + zoom;
    Cartouche map = new Cartouche();
    map.addPoint((x << 3) >> zoom, (y << 3) >> zoom, 5, reach, 1, 1);
    map.choose(0, candidate);
    check.due("17 at " + what, map.nameFrom(0), zoom);
    check.due("24 at " + what, map.nameAt(endX, endY, zoom), 0);
    map.addPoint((x << 3) >> zoom, (y << 3) >> zoom, 9, reach + 1, 1, 1);
    map.remove(0);
    map.choose(1, candidate);
    check.due("17 beyond " + what, map.nameFrom(1), zoom + 1);
    check.due("24 beyond " + what, Check.answer(() -> map.nameAt(endX, endY, zoom)), "throws.NoSuchElementException");
  }

  private void tiles() {
    int[] across = {2, 4, 8, 16, 32, 63};
    for (int zoom = 0; zoom < 6; zoom++) {
      int last = across[zoom] - 1;
      Cartouche map = new Cartouche();
      int drawn = 0;
      for (int[] tile : new int[][] {{0, 0}, {last, 0}, {0, last}, {last, last}}) {
        map.namesIn(zoom, tile[0], tile[1]);
        drawn++;
        check.due("25 drawn in the zoom " + zoom + ": " + tile[0] + ", " + tile[1], map.drawn(), drawn);
      }
      for (int n : new int[] {-1, -2, last + 1, last + 2, 63, 64, -64, 1000, LEAST, LEAST + 1, MOST, MOST - 1}) {
        check.due("25 x " + n + " in the zoom " + zoom, map.namesIn(zoom, n, 0), 0);
        check.due("25 y " + n + " in the zoom " + zoom, map.namesIn(zoom, 0, n), 0);
        check.due("25 both " + n + " in the zoom " + zoom, map.namesIn(zoom, n, n), 0);
        check.due("25 the end and y " + n + " in the zoom " + zoom, map.namesIn(zoom, last, n), 0);
      }
      check.due("25 nothing is drawn outside, zoom " + zoom, map.drawn(), drawn);
    }
  }

  /** Numbers that, times 64 or times the tiles across, would be those of a tile with a name again. */
  private void tilesThatWrapAround() {
    Cartouche map = new Cartouche();
    map.addPoint(500, 500, 5, 0, 1, 1);
    map.choose(0, 5);
    for (int n : new int[] {1 << 26, 1 << 27, 1 << 30, LEAST, -(1 << 26)}) {
      check.due("25 x 7 and " + n, map.namesIn(3, 7 + n, 7), 0);
      check.due("25 y 7 and " + n, map.namesIn(3, 7, 7 + n), 0);
      check.due("26 x 7 and " + n, Check.answer(() -> map.nameIn(3, 7 + n, 7, 0)), "throws.NoSuchElementException");
      check.due("26 y 7 and " + n, Check.answer(() -> map.nameIn(3, 7, 7 + n, 0)), "throws.NoSuchElementException");
    }
    // The neighbours in the next row and in the row before have the same running number.
    check.due("25 a row less, 16 tiles more", map.namesIn(3, 7 + 16, 6), 0);
    check.due("25 a row more, 16 tiles less", map.namesIn(3, 7 - 16, 8), 0);
    check.due("25 nothing is drawn", map.drawn(), 0);
    check.due("25 the name is there", map.namesIn(3, 7, 7), 1);
  }

  private void indexes() {
    Cartouche map = new Cartouche();
    for (int i = 0; i < 24; i++) {
      // Letters of 6 by 10 places in a tile of 64 by 64, 8 in a row and three rows, each beside its symbol.
      map.addPoint(449 + 8 * (i % 8), 449 + 12 * (i / 8), 5, 0, 1, 1);
      map.choose(i, 5);
    }
    int names = map.namesIn(3, 7, 7);
    check.due("25 the names of 24 points", names, 24);
    for (int i = 0; i < 24; i++) {
      check.due("26 the index " + i, map.nameIn(3, 7, 7, i), i);
    }
    check.due("26 one too great", Check.answer(() -> map.nameIn(3, 7, 7, 24)), "throws.NoSuchElementException");
    check.due("26 one too small", Check.answer(() -> map.nameIn(3, 7, 7, -1)), "throws.NoSuchElementException");
    check.due("27 one tile", map.drawn(), 1);
  }

  private void squares() {
    Cartouche map = new Cartouche();
    map.addPoint(0, 0, 0, 0, 1, 1);
    int x = 0;
    int y = 0;
    for (int row = 0; row < 8; row++) {
      for (int column = 0; column < 8; column++) {
        for (int corner = 0; corner < 4; corner++) {
          int toX = 125 * column + (corner % 2 == 0 ? 0 : 124);
          int toY = 125 * row + (corner / 2 == 0 ? 0 : 124);
          Cartouche one = new Cartouche();
          one.addArea(toX, toY, 999 - toX, 999 - toY, 5, 1, 1);
          check.due("28 of " + toX + ", " + toY, one.square(0), 8 * row + column);
          check.due("29 of " + toX + ", " + toY, one.indexed(8 * row + column, 0), 0);
        }
      }
    }
    for (int square = 0; square < 64; square++) {
      map.shift(0, 125 * (square % 8) - x, 125 * (square / 8) - y);
      x = 125 * (square % 8);
      y = 125 * (square / 8);
      check.due("28 moved to the square " + square, map.square(0), square);
      check.due("29 moved to the square " + square, map.indexed(square, 0), 0);
    }
  }

  private void ranksInSquares() {
    Cartouche map = new Cartouche();
    for (int i = 0; i < 24; i++) {
      map.addPoint(999, 999, i % 10, 0, 1, 1);
    }
    // The rank 9 has the numbers 9 and 19, 8 has 8 and 18, down to 3 with 3, 13 and 23.
    int rank = 0;
    for (int strength = 9; strength >= 0; strength--) {
      for (int number = strength; number < 24; number += 10) {
        check.due("29 the rank " + rank, map.indexed(63, rank), number);
        rank++;
      }
    }
    check.due("29 one too great", Check.answer(() -> map.indexed(63, 24)), "throws.NoSuchElementException");
    check.due("29 one too small", Check.answer(() -> map.indexed(63, -1)), "throws.NoSuchElementException");
  }
}
