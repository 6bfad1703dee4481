/** The document's sentences on names at places and in tiles, on what is kept, and on shares and means. */
public final class TileTest {
  private static final int[] ACROSS = {2, 4, 8, 16, 32, 63};

  private interface Call {
    Object on(Cartouche map);
  }

  private final Check check = new Check();

  public static void main(String[] args) {
    TileTest test = new TileTest();
    test.placesOfNames();
    test.placesAmongNames();
    test.namesAcrossTiles();
    test.namesThatEndWithTiles();
    test.namesOnTheEdge();
    test.namesNotYetSeen();
    test.namesInTheirOrder();
    test.everyTileOfTheScreens();
    test.outsideNothingIsKept();
    test.asTheyAreDrawn();
    test.keptAcrossQuestions();
    test.keptAcrossRefusals();
    test.droppedByChanges();
    test.allAreDropped();
    test.shares();
    test.means();
    test.consistentAlways();
    test.check.end("TileTest");
  }

  // ---- places

  private void duePlace(String what, Cartouche map, int x, int y, int zoom, int want) {
    check.due("24 " + what + " at " + x + ", " + y, Check.answer(() -> map.nameAt(x, y, zoom)),
        want < 0 ? "throws.NoSuchElementException" : want);
  }

  /** The right and the lower end are outside. */
  private void placesOfNames() {
    Cartouche map = new Cartouche();
    map.addPoint(500, 500, 5, 2, 6, 3);
    map.addLine(100, 100, 5, 4, 2);
    map.addVertex(1, 300, 100);
    map.addArea(600, 700, 800, 900, 5, 5, 1);
    map.choose(0, 6);
    map.choose(1, 0);
    map.choose(2, 1);
    // left, top, right and lower end at the zoom 3.
    int[][] boxes = {{462, 487, 498, 497}, {188, 88, 212, 98}, {691, 790, 709, 810}};
    for (int i = 0; i < 3; i++) {
      int[] box = boxes[i];
      int x = (box[0] + box[2]) / 2;
      int y = (box[1] + box[3]) / 2;
      duePlace("the left end", map, box[0], y, 3, i);
      duePlace("before the left end", map, box[0] - 1, y, 3, -1);
      duePlace("the last place", map, box[2] - 1, y, 3, i);
      duePlace("the right end", map, box[2], y, 3, -1);
      duePlace("the upper end", map, x, box[1], 3, i);
      duePlace("above the upper end", map, x, box[1] - 1, 3, -1);
      duePlace("the lowest place", map, x, box[3] - 1, 3, i);
      duePlace("the lower end", map, x, box[3], 3, -1);
      duePlace("the first corner", map, box[0], box[1], 3, i);
      duePlace("the last corner", map, box[2] - 1, box[3] - 1, 3, i);
      duePlace("beyond the last corner", map, box[2], box[3], 3, -1);
      for (int far : new int[] {Integer.MIN_VALUE, Integer.MAX_VALUE, -1, 1000}) {
        duePlace("far in x", map, far, y, 3, -1);
        duePlace("far in y", map, x, far, 3, -1);
        duePlace("far in both", map, far, far, 3, -1);
      }
    }
  }

  private void placesAmongNames() {
    Cartouche map = new Cartouche();
    for (int i = 0; i < 24; i++) {
      // Names of 6 by 10 places at the zoom 3, without a gap between them.
      int x = 400 + 6 * (i % 6);
      int y = 400 + 10 * (i / 6);
      map.addArea(x, y, x + 6, y + 10, i % 10, 1, 1);
      map.choose(i, 0);
    }
    for (int y : new int[] {400, 409, 410, 419, 420, 429, 430, 439}) {
      for (int x = 400; x < 436; x++) {
        duePlace("side by side", map, x, y, 3, (x - 400) / 6 + 6 * ((y - 400) / 10));
      }
    }
    duePlace("beside all", map, 436, 439, 3, -1);
    duePlace("below all", map, 435, 440, 3, -1);
    check.due("25 all in one tile", map.namesIn(3, 6, 6), 24);
    check.due("25 none beside it", map.namesIn(3, 7, 6), 0);
  }

  // ---- tiles

  private static Cartouche nameAt(int left, int top) {
    Cartouche map = new Cartouche();
    // At the zoom 3 the name has 6 by 10 places.
    map.addArea(left, top, left + 6, top + 10, 5, 1, 1);
    map.choose(0, 0);
    return map;
  }

  private void dueTiles(String what, Cartouche map, int... xy) {
    for (int y = 5; y <= 8; y++) {
      for (int x = 5; x <= 8; x++) {
        int want = 0;
        for (int i = 0; i < xy.length; i += 2) {
          want += xy[i] == x && xy[i + 1] == y ? 1 : 0;
        }
        check.due("25 " + what + ", the tile " + x + ", " + y, map.namesIn(3, x, y), want);
      }
    }
  }

  /** The tile 6 has the places 384 to 447, and 7 those from 448 on. */
  private void namesAcrossTiles() {
    dueTiles("across one side", nameAt(445, 400), 6, 6, 7, 6);
    dueTiles("across the other side", nameAt(400, 440), 6, 6, 6, 7);
    dueTiles("across a corner", nameAt(445, 440), 6, 6, 7, 6, 6, 7, 7, 7);
    Cartouche wide = new Cartouche();
    wide.addArea(300, 300, 700, 700, 5, 20, 20);
    wide.choose(0, 0);
    // 120 by 10 places from 440 and 495 on: to 559 and 504.
    dueTiles("across three tiles", wide, 6, 7, 7, 7, 8, 7);
  }

  private void namesThatEndWithTiles() {
    dueTiles("within", nameAt(400, 400), 6, 6);
    dueTiles("from the first place of a tile on", nameAt(384, 400), 6, 6);
    dueTiles("from the place before", nameAt(383, 400), 5, 6, 6, 6);
    dueTiles("to the last place of a tile", nameAt(442, 400), 6, 6);
    dueTiles("to the next place", nameAt(443, 400), 6, 6, 7, 6);
    dueTiles("from the last place on", nameAt(447, 400), 6, 6, 7, 6);
    dueTiles("from the first place of the next on", nameAt(448, 400), 7, 6);
    dueTiles("from the upper end on", nameAt(400, 384), 6, 6);
    dueTiles("from above the upper end on", nameAt(400, 383), 6, 5, 6, 6);
    dueTiles("to the lower end", nameAt(400, 438), 6, 6);
    dueTiles("to the next place below", nameAt(400, 439), 6, 6, 6, 7);
    dueTiles("from the lowest place on", nameAt(400, 447), 6, 6, 6, 7);
    dueTiles("from the next tile on", nameAt(400, 448), 6, 7);
  }

  /** The last tiles go beyond the screen. */
  private void namesOnTheEdge() {
    for (int zoom = 0; zoom < 6; zoom++) {
      int last = ACROSS[zoom] - 1;
      int size = 125 << zoom;
      Cartouche map = new Cartouche();
      map.addPoint(999, 999, 5, 0, 1, 1);
      map.choose(0, 6);
      int right = (999 << zoom) / 8 - 1;
      check.due("25 the last tile of the zoom " + zoom, map.namesIn(zoom, last, last), 1);
      check.due("26 the last tile of the zoom " + zoom, map.nameIn(zoom, last, last, 0), 0);
      check.due("24 its last place", map.nameAt(right, right - 1, zoom), 0);
      check.due("25 it has the screen's last place", (size - 1) / 64, last);
      check.due("25 beyond it in x", map.namesIn(zoom, last + 1, last), 0);
      check.due("25 beyond it in y", map.namesIn(zoom, last, last + 1), 0);
      Cartouche first = new Cartouche();
      first.addPoint(0, 0, 5, 0, 1, 1);
      first.choose(0, 5);
      check.due("25 the first tile of the zoom " + zoom, first.namesIn(zoom, 0, 0), 1);
      check.due("25 before it in x", first.namesIn(zoom, -1, 0), 0);
      check.due("25 before it in y", first.namesIn(zoom, 0, -1), 0);
      check.due("27 one tile", first.drawn(), 1);
    }
  }

  private void namesNotYetSeen() {
    int[] heights = {80, 40, 20, 10, 5, 3, 2};
    for (int from = 0; from <= 6; from++) {
      Cartouche map = new Cartouche();
      map.addArea(400, 400, 600, 400 + heights[from], 5, 1, 1);
      map.choose(0, 0);
      for (int i = 0; i < 6; i++) {
        int zoom = i;
        int x = (500 << zoom) / 8;
        int y = ((400 << zoom) / 8 + ((400 + heights[from]) << zoom) / 8) / 2;
        boolean isSeen = zoom >= from;
        check.due("25 seen from " + from + ", at " + zoom, map.namesIn(zoom, x / 64, y / 64), isSeen ? 1 : 0);
        check.due("26 seen from " + from + ", at " + zoom, Check.answer(() -> map.nameIn(zoom, x / 64, y / 64, 0)),
            isSeen ? (Object) 0 : "throws.NoSuchElementException");
        duePlace("seen from " + from + ", zoom " + zoom, map, x, y, zoom, isSeen ? 0 : -1);
        check.due("30 seen from " + from + ", at " + zoom, map.namedShare(zoom), isSeen ? 1.0f : 0.0f);
        check.due("21 seen from " + from + ", at " + zoom, Check.answer(() -> map.left(0, zoom)),
            isSeen ? (Object) (x - 3) : "throws.NoSuchElementException");
        check.due("22 seen from " + from + ", at " + zoom, Check.answer(() -> map.top(0, zoom)),
            isSeen ? (Object) (y - 5) : "throws.NoSuchElementException");
      }
    }
  }

  private void namesInTheirOrder() {
    Cartouche map = new Cartouche();
    int[] ranks = {3, 9, 0, 3, 5, 9};
    for (int i = 0; i < 6; i++) {
      map.addArea(384 + 6 * i, 400, 390 + 6 * i, 410, ranks[i], 1, 1);
      map.choose(i, 0);
    }
    map.setWish(2, 3);
    int[] order = {1, 5, 4, 0, 2, 3};
    for (int i = 0; i < 6; i++) {
      check.due("26 the index " + i, map.nameIn(3, 6, 6, i), order[i]);
    }
    map.choose(5, -1);
    int[] rest = {1, 4, 0, 2, 3};
    for (int i = 0; i < 5; i++) {
      check.due("26 without one, the index " + i, map.nameIn(3, 6, 6, i), rest[i]);
    }
    check.due("26 without one, the last", Check.answer(() -> map.nameIn(3, 6, 6, 5)), "throws.NoSuchElementException");
    check.due("25 without one", map.namesIn(3, 6, 6), 5);
  }

  /** Each of the 5333 tiles is drawn once and kept for itself, over several objects of 512 calls. */
  private void everyTileOfTheScreens() {
    int zoom = 0;
    int x = 0;
    int y = 0;
    int all = 0;
    while (zoom < 6) {
      Cartouche map = new Cartouche();
      int firstZoom = zoom;
      int firstX = x;
      int firstY = y;
      for (int asked = 1; asked <= 250 && zoom < 6; asked++) {
        map.namesIn(zoom, x, y);
        all++;
        x++;
        if (x == ACROSS[zoom]) {
          x = 0;
          y++;
        }
        if (y == ACROSS[zoom]) {
          y = 0;
          zoom++;
        }
        if (asked == 250 || zoom == 6) {
          check.due("27 tiles from " + firstZoom + ", " + firstX + ", " + firstY + " on", map.drawn(), asked);
          map.namesIn(firstZoom, firstX, firstY);
          check.due("27 the first one of them is kept", map.drawn(), asked);
        }
      }
    }
    check.due("27 all tiles", all, 4 + 16 + 64 + 256 + 1024 + 63 * 63);
  }

  private void outsideNothingIsKept() {
    Cartouche map = nameAt(400, 400);
    for (int i = 0; i < 2; i++) {
      check.due("25 outside", map.namesIn(0, 2, 0) + map.namesIn(5, 63, 62) + map.namesIn(3, -1, 5), 0);
      check.due("26 outside", Check.answer(() -> map.nameIn(0, 0, 2, 0)), "throws.NoSuchElementException");
      check.due("27 nothing", map.drawn(), 0);
    }
    check.due("32 consistent", map.isConsistent(), true);
  }

  /** What is kept is what was drawn, also once it is asked in the other way. */
  private void asTheyAreDrawn() {
    Cartouche map = nameAt(400, 400);
    check.due("26 draws", map.nameIn(3, 6, 6, 0), 0);
    check.due("27 one", map.drawn(), 1);
    check.due("25 finds it kept", map.namesIn(3, 6, 6), 1);
    check.due("26 finds it kept", map.nameIn(3, 6, 6, 0), 0);
    check.due("27 still one", map.drawn(), 1);
    check.due("25 draws another", map.namesIn(3, 6, 7), 0);
    check.due("27 an empty one too", map.drawn(), 2);
    check.due("25 finds the empty one kept", map.namesIn(3, 6, 7), 0);
    check.due("27 still two", map.drawn(), 2);
    check.due("26 in the empty one, kept", Check.answer(() -> map.nameIn(3, 6, 7, 0)), "throws.NoSuchElementException");
    check.due("26 in one that is not kept", Check.answer(() -> map.nameIn(3, 6, 8, 0)), "throws.NoSuchElementException");
    check.due("27 a call that throws changes nothing", map.drawn(), 2);
    check.due("25 that one is drawn now", map.namesIn(3, 6, 8), 0);
    check.due("27 three", map.drawn(), 3);
    check.due("25 the same numbers in another zoom", map.namesIn(4, 6, 6) + map.namesIn(5, 6, 6), 0);
    check.due("25 its place in another zoom", map.namesIn(4, 12, 12), 1);
    check.due("27 six", map.drawn(), 6);
    map.nameAt(400, 400, 3);
    map.isConsistent();
    check.due("27 nothing else draws", map.drawn(), 6);
  }

  // ---- what is kept

  /** A point, a line and an area, with a name each. */
  private static Cartouche threeNames() {
    Cartouche map = new Cartouche();
    map.addPoint(400, 400, 5, 0, 1, 1);
    map.addLine(200, 600, 4, 1, 1);
    map.addVertex(1, 300, 600);
    map.addArea(700, 700, 800, 800, 3, 1, 1);
    map.place();
    return map;
  }

  private void dueDrawnAnew(String what, int tiles, Call call) {
    Cartouche map = threeNames();
    int[][] asked = {{3, 6, 6}, {0, 0, 0}, {5, 62, 62}, {4, 0, 31}};
    for (int[] tile : asked) {
      map.namesIn(tile[0], tile[1], tile[2]);
    }
    check.due("27 before " + what, map.drawn(), 4);
    Check.answer(() -> call.on(map));
    check.due("27 at once after " + what, map.drawn(), 4);
    check.due("32 after " + what, map.isConsistent(), true);
    for (int[] tile : asked) {
      map.namesIn(tile[0], tile[1], tile[2]);
    }
    check.due("27 after " + what, map.drawn(), 4 + tiles);
    check.due("32 at last after " + what, map.isConsistent(), true);
  }

  private void keptAcrossQuestions() {
    dueDrawnAnew("nothing", 0, map -> 0);
    dueDrawnAnew("lock", 0, map -> map.lock(0, true));
    dueDrawnAnew("lock no more", 0, map -> map.lock(0, false));
    dueDrawnAnew("features", 0, map -> map.features());
    dueDrawnAnew("candidates", 0, map -> map.candidates(0));
    dueDrawnAnew("candidateOf", 0, map -> map.candidateOf(0));
    dueDrawnAnew("nameFrom", 0, map -> map.nameFrom(0));
    dueDrawnAnew("seenFrom", 0, map -> map.seenFrom(0));
    dueDrawnAnew("cost", 0, map -> map.cost());
    dueDrawnAnew("leastCost", 0, map -> map.leastCost());
    dueDrawnAnew("left", 0, map -> map.left(0, 5));
    dueDrawnAnew("top", 0, map -> map.top(0, 5));
    dueDrawnAnew("widthOf", 0, map -> map.widthOf(0));
    dueDrawnAnew("nameAt", 0, map -> map.nameAt(1601, 1600, 5));
    dueDrawnAnew("namesIn", 0, map -> map.namesIn(3, 6, 6));
    dueDrawnAnew("namesIn outside", 0, map -> map.namesIn(3, 16, 6));
    dueDrawnAnew("nameIn", 0, map -> map.nameIn(3, 6, 6, 0));
    dueDrawnAnew("drawn", 0, map -> map.drawn());
    dueDrawnAnew("square", 0, map -> map.square(0));
    dueDrawnAnew("indexed", 0, map -> map.indexed(27, 0));
    dueDrawnAnew("namedShare", 0, map -> map.namedShare(0));
    dueDrawnAnew("meanFrom", 0, map -> map.meanFrom());
    dueDrawnAnew("isConsistent", 0, map -> map.isConsistent());
  }

  private void keptAcrossRefusals() {
    dueDrawnAnew("addPoint refused", 0, map -> map.addPoint(1000, 0, 0, 0, 1, 1));
    dueDrawnAnew("addLine refused", 0, map -> map.addLine(0, 0, 0, 1, 2));
    dueDrawnAnew("addVertex without a line", 0, map -> map.addVertex(0, 0, 0));
    dueDrawnAnew("addVertex refused", 0, map -> map.addVertex(1, 0, 1000));
    dueDrawnAnew("addArea refused", 0, map -> map.addArea(0, 0, 0, 0, 10, 1, 1));
    dueDrawnAnew("remove refused", 0, map -> map.remove(3));
    dueDrawnAnew("setWish refused", 0, map -> map.setWish(0, 10));
    dueDrawnAnew("shift refused", 0, map -> map.shift(0, 600, 0));
    dueDrawnAnew("turn refused", 0, map -> map.turn(4));
    dueDrawnAnew("lock refused", 0, map -> map.lock(3, true));
    dueDrawnAnew("improve refused", 0, map -> map.improve(501));
    dueDrawnAnew("choose refused", 0, map -> map.choose(0, 16));
    dueDrawnAnew("nameIn refused", 0, map -> map.nameIn(3, 6, 6, 9));
    dueDrawnAnew("nameAt refused", 0, map -> map.nameAt(0, 0, 3));
    dueDrawnAnew("namesIn refused", 0, map -> map.namesIn(6, 0, 0));
  }

  /** Whatever comes of it: also if all stays as it is. */
  private void droppedByChanges() {
    dueDrawnAnew("addPoint", 4, map -> map.addPoint(0, 999, 0, 0, 1, 1));
    dueDrawnAnew("addLine", 4, map -> map.addLine(0, 999, 0, 1, 1));
    dueDrawnAnew("addVertex", 4, map -> map.addVertex(1, 300, 600));
    dueDrawnAnew("addArea", 4, map -> map.addArea(0, 999, 0, 999, 0, 1, 1));
    dueDrawnAnew("remove of a point", 4, map -> map.remove(0));
    dueDrawnAnew("remove of a line", 4, map -> map.remove(1));
    dueDrawnAnew("remove of an area", 4, map -> map.remove(2));
    dueDrawnAnew("setWish", 4, map -> map.setWish(2, 9));
    dueDrawnAnew("setWish without another order", 4, map -> map.setWish(0, 9));
    dueDrawnAnew("setWish as it is", 4, map -> map.setWish(0, 0));
    dueDrawnAnew("shift", 4, map -> map.shift(0, 100, 100));
    dueDrawnAnew("shift by nothing", 4, map -> map.shift(0, 0, 0));
    dueDrawnAnew("turn", 4, map -> map.turn(3));
    dueDrawnAnew("turn as it is", 4, map -> map.turn(0));
    dueDrawnAnew("place as they are", 4, map -> map.place());
    dueDrawnAnew("improve without a change", 4, map -> map.improve(500));
    dueDrawnAnew("improve by one trial", 4, map -> map.improve(1));
    dueDrawnAnew("choose", 4, map -> map.choose(0, 7));
    dueDrawnAnew("choose none", 4, map -> map.choose(0, -1));
    dueDrawnAnew("choose as it is", 4, map -> map.choose(0, 0));
    Cartouche empty = new Cartouche();
    empty.namesIn(0, 0, 0);
    empty.place();
    empty.namesIn(0, 0, 0);
    check.due("27 after placing without features", empty.drawn(), 2);
    empty.improve(1);
    empty.namesIn(0, 0, 0);
    check.due("27 after improving without features", empty.drawn(), 3);
    empty.turn(0);
    empty.namesIn(0, 0, 0);
    check.due("27 after turning without features", empty.drawn(), 4);
    Cartouche locked = nameAt(400, 400);
    locked.lock(0, true);
    locked.namesIn(3, 6, 6);
    locked.place();
    check.due("25 after placing what is locked", locked.namesIn(3, 6, 6), 1);
    check.due("27 after placing what is locked", locked.drawn(), 2);
    locked.improve(500);
    check.due("25 after improving what is locked", locked.namesIn(3, 6, 6), 1);
    check.due("27 after improving what is locked", locked.drawn(), 3);
  }

  /** Among the tiles of a whole screen, none stays behind, and each tells what is so now. */
  private void allAreDropped() {
    Cartouche map = nameAt(400, 400);
    askAll(map, 1);
    check.due("27 all of a screen", map.drawn(), 64);
    map.shift(0, 400, 0);
    askAll(map, 1);
    check.due("27 all anew", map.drawn(), 128);
    map.choose(0, -1);
    askAll(map, 0);
    check.due("27 all anew without a name", map.drawn(), 192);
  }

  private void askAll(Cartouche map, int want) {
    int names = 0;
    for (int x = 0; x < 8; x++) {
      for (int y = 0; y < 8; y++) {
        names += map.namesIn(3, x + 6, y + 4);
      }
    }
    check.due("25 names in 64 tiles", names, want);
  }

  // ---- shares and means

  private void shares() {
    for (int all = 1; all <= 24; all++) {
      Cartouche map = new Cartouche();
      for (int i = 0; i < all; i++) {
        map.addPoint(160 * (i % 6) + 80, 240 * (i / 6) + 80, 5, 0, 1, 1);
      }
      check.due("30 0 of " + all, map.namedShare(0), 0.0f);
      check.due("31 0 of " + all, map.meanFrom(), 6.0);
      for (int named = 1; named <= all; named++) {
        map.choose(named - 1, 0);
        check.due("30 " + named + " of " + all, map.namedShare(named % 6), (float) named / (float) all);
        check.due("31 " + named + " of " + all, map.meanFrom(), (double) (6 * (all - named)) / (double) all);
      }
    }
  }

  /** Seven names, each seen from another zoom on, and the last one never: it counts 6. */
  private void means() {
    int[] heights = {80, 40, 20, 10, 5, 3, 2};
    Cartouche map = new Cartouche();
    int sum = 0;
    for (int i = 0; i < 7; i++) {
      map.addArea(100, 120 * i, 200, 120 * i + heights[i], 5, 1, 1);
      check.due("31 before the name of " + i, map.meanFrom(), (double) (sum + 6) / (double) (i + 1));
      map.choose(i, 0);
      sum += i;
      check.due("31 with the name of " + i, map.meanFrom(), (double) sum / (double) (i + 1));
    }
    check.due("31 of 0 to 6", map.meanFrom(), 3.0);
    map.remove(3);
    check.due("31 without the third", map.meanFrom(), 3.0);
    map.remove(6);
    check.due("31 without the last", map.meanFrom(), 12.0 / 5.0);
    for (int i : new int[] {0, 1, 2, 4}) {
      map.remove(i);
    }
    check.due("31 one alone", map.meanFrom(), 5.0);
    map.remove(5);
    check.due("31 none", Check.answer(map::meanFrom), "throws.ArithmeticException");
  }

  /** The invariants hold whatever is done: with crowded names, after each change, with tiles kept. */
  private void consistentAlways() {
    Cartouche map = Story.full();
    check.due("32 a full map", map.isConsistent(), true);
    for (int i = 0; i < 24; i++) {
      map.choose(i, i % map.candidates(i));
      map.namesIn(3, i % 16, 0);
      check.due("32 chosen " + i, map.isConsistent(), true);
    }
    for (int i = 0; i < 24; i += 3) {
      map.setWish(i, 9 - i % 10);
      map.namesIn(i % 6, 0, 0);
      check.due("32 wished for " + i, map.isConsistent(), true);
      map.turn(i % 4);
      map.namesIn(i % 6, 1, 0);
      check.due("32 turned " + i, map.isConsistent(), true);
      map.place();
      map.namesIn(i % 6, 0, 1);
      check.due("32 placed " + i, map.isConsistent(), true);
      map.improve(40);
      map.namesIn(i % 6, 1, 1);
      check.due("32 improved " + i, map.isConsistent(), true);
      map.remove(i);
      map.namesIn(i % 6, 1, 1);
      check.due("32 without " + i, map.isConsistent(), true);
    }
    check.due("32 crowded", Story.crowded().isConsistent(), true);
    check.due("32 empty", Story.empty().isConsistent(), true);
  }
}
