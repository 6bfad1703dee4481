/** The document's sentences on screens, symbols and candidates. */
public final class ScreenTest {
  private final Check check = new Check();

  public static void main(String[] args) {
    ScreenTest test = new ScreenTest();
    test.turnedPlaces();
    test.turnedLinesAndAreas();
    test.roundedPlaces();
    test.symbolsBesideOneAnother();
    test.symbolsOnTheEdge();
    test.inItAndAllGreaterOnes();
    test.hiddenSymbolsHideNothing();
    test.weakerSymbolsHideNothing();
    test.linesAndAreasAreAlwaysSeen();
    test.namesOfPoints();
    test.namesOfPointsOffTheScreen();
    test.stretchesThatAreNotThere();
    test.lengthsOfStretches();
    test.middlesOfStretches();
    test.linesOnTheEdge();
    test.sizesOfAreas();
    test.cornersOfAreas();
    test.areasOnTheEdge();
    test.check.end("ScreenTest");
  }

  private void dueBox(String what, Cartouche map, int feature, int zoom, int left, int top) {
    check.due(what + ", left", Check.answer(() -> map.left(feature, zoom)), left);
    check.due(what + ", top", Check.answer(() -> map.top(feature, zoom)), top);
  }

  // ---- turns and zooms

  private void turnedPlaces() {
    // For each place, where it is by the turns 0 to 3.
    int[][] places = {
      {0, 0, 999, 0, 999, 999, 0, 999},
      {999, 0, 999, 999, 0, 999, 0, 0},
      {0, 999, 0, 0, 999, 0, 999, 999},
      {999, 999, 0, 999, 0, 0, 999, 0},
      {200, 301, 698, 200, 799, 698, 301, 799},
      {301, 200, 799, 301, 698, 799, 200, 698},
      {0, 400, 599, 0, 999, 599, 400, 999},
      {1, 998, 1, 1, 998, 1, 998, 998},
    };
    for (int[] place : places) {
      Cartouche map = new Cartouche();
      map.addPoint(place[0], place[1], 5, 0, 1, 1);
      for (int turn = 0; turn < 4; turn++) {
        map.turn(turn);
        int x = place[2 * turn];
        int y = place[2 * turn + 1];
        // The name that lies towards the middle of the screen.
        map.choose(0, x < 500 ? (y < 500 ? 5 : 4) : (y < 500 ? 7 : 6));
        dueBox("9 the place " + place[0] + ", " + place[1] + " by " + turn, map, 0, 3,
            x < 500 ? x + 1 : x - 6, y < 500 ? y + 1 : y - 11);
      }
      check.due("28 without a turn", map.square(0), 8 * (place[1] / 125) + place[0] / 125);
    }
  }

  private void turnedLinesAndAreas() {
    Cartouche map = new Cartouche();
    map.addLine(100, 200, 5, 1, 1);
    map.addVertex(0, 300, 600);
    map.addArea(100, 200, 300, 600, 5, 3, 3);
    map.choose(0, 0);
    map.choose(1, 1);
    map.setWish(1, 1);
    // The middle 200, 400 by the turns 0 to 3.
    int[][] middles = {{200, 400}, {599, 200}, {799, 599}, {400, 799}};
    for (int turn = 0; turn < 4; turn++) {
      map.turn(turn);
      dueBox("9 an area by " + turn, map, 1, 3, middles[turn][0] - 6, middles[turn][1] - 10);
      map.choose(1, -1);
      dueBox("9 a line by " + turn, map, 0, 3, middles[turn][0] - 3, middles[turn][1] - 12);
      map.choose(1, 1);
    }
    // Its width is 12: by the turns 1 and 3 the sides change places, so that it has room in one way only.
    Cartouche narrow = new Cartouche();
    narrow.addArea(400, 400, 410, 600, 5, 2, 2);
    narrow.choose(0, 0);
    int[] froms = {4, 3, 4, 3};
    for (int turn = 0; turn < 4; turn++) {
      narrow.turn(turn);
      check.due("9 a narrow area by " + turn, narrow.nameFrom(0), froms[turn]);
    }
  }

  private void roundedPlaces() {
    // For each place, where it is at the zooms 0 to 5.
    int[][] places = {
      {0, 0, 0, 0, 0, 0, 0}, {1, 0, 0, 0, 1, 2, 4}, {2, 0, 0, 1, 2, 4, 8}, {3, 0, 0, 1, 3, 6, 12},
      {4, 0, 1, 2, 4, 8, 16}, {7, 0, 1, 3, 7, 14, 28}, {8, 1, 2, 4, 8, 16, 32}, {15, 1, 3, 7, 15, 30, 60},
      {16, 2, 4, 8, 16, 32, 64}, {499, 62, 124, 249, 499, 998, 1996}, {500, 62, 125, 250, 500, 1000, 2000},
      {503, 62, 125, 251, 503, 1006, 2012}, {504, 63, 126, 252, 504, 1008, 2016},
      {991, 123, 247, 495, 991, 1982, 3964}, {992, 124, 248, 496, 992, 1984, 3968},
      {998, 124, 249, 499, 998, 1996, 3992}, {999, 124, 249, 499, 999, 1998, 3996},
    };
    for (int[] place : places) {
      boolean isLow = place[0] < 500;
      Cartouche across = new Cartouche();
      across.addPoint(place[0], 500, 5, 0, 1, 1);
      across.choose(0, isLow ? 5 : 7);
      Cartouche down = new Cartouche();
      down.addPoint(500, place[0], 5, 0, 1, 1);
      down.choose(0, isLow ? 5 : 4);
      for (int zoom = 0; zoom < 6; zoom++) {
        int at = place[zoom + 1];
        check.due("21 the place " + place[0] + " at the zoom " + zoom, across.left(0, zoom), isLow ? at + 1 : at - 6);
        check.due("22 the place " + place[0] + " at the zoom " + zoom, down.top(0, zoom), isLow ? at + 1 : at - 11);
      }
    }
  }

  // ---- symbols

  /** A reach of s has s places on both sides and one between: at a distance of both reaches they still overlap. */
  private void symbolsBesideOneAnother() {
    int[][] reaches = {{0, 0}, {0, 1}, {1, 0}, {1, 1}, {3, 5}, {5, 3}, {0, 8}, {8, 0}, {8, 8}};
    for (int[] reach : reaches) {
      int apart = reach[0] + reach[1] + 1;
      int overlapping = apart == 1 ? 6 : 4;
      for (int stronger = 0; stronger < 2; stronger++) {
        String what = "18 reaches " + reach[0] + " and " + reach[1] + ", the stronger is " + stronger + ", ";
        check.due(what + "apart in x", weakerSeenFrom(reach, apart, 0, stronger), 3);
        check.due(what + "apart in y", weakerSeenFrom(reach, 0, apart, stronger), 3);
        check.due(what + "apart in both", weakerSeenFrom(reach, apart, apart, stronger), 3);
        check.due(what + "apart in x only", weakerSeenFrom(reach, apart, apart - 1, stronger), 3);
        check.due(what + "overlapping in x", weakerSeenFrom(reach, apart - 1, 0, stronger), overlapping);
        check.due(what + "overlapping in y", weakerSeenFrom(reach, 0, apart - 1, stronger), overlapping);
        check.due(what + "overlapping in both", weakerSeenFrom(reach, apart - 1, apart - 1, stronger), overlapping);
        check.due(what + "at one place", weakerSeenFrom(reach, 0, 0, stronger), 6);
      }
    }
  }

  private static int weakerSeenFrom(int[] reach, int dx, int dy, int stronger) {
    Cartouche map = new Cartouche();
    map.addPoint(500, 500, stronger == 0 ? 5 : 4, reach[0], 1, 1);
    map.addPoint(500 + dx, 500 + dy, stronger == 1 ? 5 : 4, reach[1], 1, 1);
    // The stronger one is seen from the zoom 0 on.
    return 10 * map.seenFrom(stronger) + map.seenFrom(1 - stronger);
  }

  /** A symbol need not lie on the screen. */
  private void symbolsOnTheEdge() {
    Cartouche map = new Cartouche();
    int[][] corners = {{0, 0}, {999, 0}, {0, 999}, {999, 999}};
    for (int i = 0; i < 4; i++) {
      map.addPoint(corners[i][0], corners[i][1], 5, 8, 1, 1);
      check.due("18 in the corner " + i, map.seenFrom(i), 0);
    }
    for (int i = 0; i < 4; i++) {
      map.addPoint(corners[i][0], corners[i][1], 4, 0, 1, 1);
      check.due("18 hidden in the corner " + i, map.seenFrom(4 + i), 6);
    }
    // 17 places further in it is free from the zoom 3 on.
    map.addPoint(0, 9, 4, 0, 1, 1);
    check.due("18 beyond the reach of 8", map.seenFrom(8), 3);
    map.addPoint(990, 999, 4, 0, 1, 1);
    check.due("18 before the reach of 8", map.seenFrom(9), 4 - 1);
  }

  private void inItAndAllGreaterOnes() {
    // The second is hidden by the first up to the zoom 3, and hides the third at the zoom 4 only.
    Cartouche map = new Cartouche();
    map.addPoint(500, 500, 9, 8, 1, 1);
    map.addPoint(510, 500, 5, 8, 1, 1);
    map.addPoint(518, 500, 0, 8, 1, 1);
    check.due("18 the second", map.seenFrom(1), 4);
    check.due("18 free at the zoom 3, but not at the next", map.seenFrom(2), 5);
    map.setWish(2, 9);
    check.due("18 the third is as strong as the first", map.seenFrom(2), 3);
    check.due("18 the second is hidden at the zoom 4 by the third", map.seenFrom(1), 5);
    map.setWish(2, 0);
    map.remove(0);
    check.due("18 the second is free", map.seenFrom(1), 0);
    check.due("18 the third is hidden by it at all zooms but the last", map.seenFrom(2), 5);
    map.remove(1);
    check.due("18 all are gone", map.seenFrom(2), 0);
  }

  private void hiddenSymbolsHideNothing() {
    Cartouche map = new Cartouche();
    map.addPoint(500, 500, 9, 0, 1, 1);
    map.addPoint(500, 500, 5, 8, 1, 1);
    map.addPoint(501, 500, 0, 0, 1, 1);
    check.due("18 never seen", map.seenFrom(1), 6);
    check.due("18 apart from the first one", map.seenFrom(2), 3);
    map.choose(2, 5);
    check.due("17 its name amid what is never seen", map.nameFrom(2), 3);
    map.choose(1, 0);
    check.due("17 without its symbol", map.nameFrom(1), 6);
    map.remove(0);
    check.due("18 seen now", map.seenFrom(1), 0);
    check.due("18 hidden now", map.seenFrom(2), 6);
    check.due("17 its name too", map.nameFrom(2), 6);
    check.due("17 with its symbol", map.nameFrom(1), 0);
  }

  private void weakerSymbolsHideNothing() {
    Cartouche map = new Cartouche();
    for (int i = 0; i < 24; i++) {
      map.addPoint(500, 500, 5, 8, 1, 1);
    }
    check.due("18 the first of 24", map.seenFrom(0), 0);
    for (int i = 1; i < 24; i++) {
      check.due("18 number " + i, map.seenFrom(i), 6);
    }
    map.setWish(23, 1);
    check.due("18 the last, stronger by one", map.seenFrom(23), 0);
    check.due("18 the first, weaker by one", map.seenFrom(0), 6);
    check.due("18 the others as before", map.seenFrom(22), 6);
  }

  private void linesAndAreasAreAlwaysSeen() {
    Cartouche map = new Cartouche();
    map.addPoint(500, 500, 9, 8, 1, 1);
    map.addLine(500, 500, 0, 1, 1);
    map.addArea(500, 500, 500, 500, 0, 1, 1);
    map.addPoint(500, 500, 0, 0, 1, 1);
    check.due("18 a line under a symbol", map.seenFrom(1), 0);
    check.due("18 an area under a symbol", map.seenFrom(2), 0);
    map.addVertex(1, 0, 0);
    check.due("18 a line with a stretch", map.seenFrom(1), 0);
    map.setWish(1, 9);
    map.setWish(2, 9);
    map.setWish(3, 9);
    map.setWish(0, 0);
    map.remove(0);
    check.due("18 a point amid stronger ones without symbols", map.seenFrom(3), 0);
    map.addPoint(500, 500, 0, 0, 1, 1);
    check.due("18 a weaker point", map.seenFrom(4), 6);
  }

  // ---- candidates of points

  private void namesOfPoints() {
    for (int reach : new int[] {0, 1, 8}) {
      for (int[] forms : new int[][] {{20, 19}, {20, 20}, {1, 1}, {7, 2}}) {
        Cartouche map = new Cartouche();
        map.addPoint(500, 500, 5, reach, forms[0], forms[1]);
        for (int candidate = 0; candidate < 16; candidate++) {
          int width = 6 * forms[candidate / 8];
          int right = 1000 + reach + 1;
          int left = 1000 - reach - width;
          int above = 1000 - reach - 11;
          int below = 1000 + reach + 1;
          int amid = 1000 - width / 2;
          int[] lefts = {right, amid, amid, left, right, right, left, left};
          int[] tops = {995, above, below, 995, above, below, above, below};
          map.choose(0, candidate);
          dueBox("21 and 22, reach " + reach + ", width " + width + ", candidate " + candidate, map, 0, 4,
              lefts[candidate % 8], tops[candidate % 8]);
          check.due("24 its last place", map.nameAt(lefts[candidate % 8] + width - 1, tops[candidate % 8] + 9, 4), 0);
        }
      }
    }
  }

  /** In each corner only one of the eight places has room on the screen. */
  private void namesOfPointsOffTheScreen() {
    int[][] corners = {{0, 0, 5}, {999, 0, 7}, {0, 999, 4}, {999, 999, 6}};
    for (int[] corner : corners) {
      Cartouche map = new Cartouche();
      map.addPoint(corner[0], corner[1], 5, 8, 2, 2);
      for (int candidate = 0; candidate < 16; candidate++) {
        map.choose(0, candidate);
        check.due("17 in the corner " + corner[0] + ", " + corner[1] + ", candidate " + candidate, map.nameFrom(0),
            candidate % 8 == corner[2] ? 0 : 6);
      }
    }
    // A name of 120 places has room beside its symbol from the zoom on where the screen is wide enough.
    Cartouche wide = new Cartouche();
    wide.addPoint(500, 500, 5, 8, 20, 1);
    wide.choose(0, 0);
    check.due("17 125 and 9 and 120 are more than 250", wide.nameFrom(0), 2);
    wide.choose(0, 1);
    check.due("17 62 and 60 are less than 125", wide.nameFrom(0), 0);
    wide.choose(0, 3);
    check.due("17 8 and 120 are more than 125", wide.nameFrom(0), 2);
  }

  // ---- candidates of lines

  private void stretchesThatAreNotThere() {
    Cartouche map = new Cartouche();
    map.addLine(100, 500, 5, 1, 1);
    for (int vertices = 2; vertices <= 6; vertices++) {
      map.addVertex(0, 100 * vertices, 500);
      for (int candidate = 0; candidate < 10; candidate++) {
        map.choose(0, candidate);
        boolean isThere = candidate % 5 < vertices - 1;
        check.due("17 the stretch " + candidate % 5 + " of " + (vertices - 1), map.nameFrom(0), isThere ? 0 : 6);
        if (isThere) {
          dueBox("21 and 22, the stretch " + candidate % 5, map, 0, 3, 150 + 100 * (candidate % 5) - 3, 488);
        }
      }
    }
  }

  /** The width is 6 for a letter; all lengths are those at the zoom 3. */
  private void lengthsOfStretches() {
    int[][] longEnough = {
      {6, 0, 1}, {0, 6, 1}, {7, 0, 1}, {5, 4, 1}, {4, 5, 1}, {6, 1, 1},
      {12, 0, 2}, {0, 12, 2}, {11, 5, 2}, {9, 8, 2}, {8, 9, 2}, {60, 0, 10}, {36, 48, 10}, {48, 36, 10},
      {120, 0, 20}, {0, 120, 20}, {72, 96, 20}, {96, 72, 20},
    };
    int[][] tooShort = {
      {5, 0, 1}, {0, 5, 1}, {4, 4, 1}, {5, 3, 1}, {3, 5, 1},
      {11, 0, 2}, {0, 11, 2}, {11, 4, 2}, {8, 8, 2}, {59, 0, 10}, {36, 47, 10}, {47, 36, 10},
      {119, 0, 20}, {0, 119, 20}, {72, 95, 20}, {95, 72, 20},
    };
    for (int[] stretch : longEnough) {
      check.due("17 long enough: " + stretch[0] + ", " + stretch[1], lineFrom(stretch), 3);
    }
    for (int[] stretch : tooShort) {
      check.due("17 too short: " + stretch[0] + ", " + stretch[1], lineFrom(stretch), 4);
    }
    Cartouche map = new Cartouche();
    map.addLine(500, 500, 5, 2, 1);
    map.addVertex(0, 500, 500);
    map.addVertex(0, 506, 500);
    for (int candidate : new int[] {0, 5}) {
      map.choose(0, candidate);
      check.due("17 without a length", map.nameFrom(0), 6);
    }
    map.choose(0, 1);
    check.due("17 too short for the long form", map.nameFrom(0), 4);
    map.choose(0, 6);
    check.due("17 long enough for the short form", map.nameFrom(0), 3);
  }

  private static int lineFrom(int[] stretch) {
    Cartouche there = new Cartouche();
    Cartouche back = new Cartouche();
    // 496 is a multiple of 16, so that the ends are just the half at the next lower zoom.
    there.addLine(496, 496, 5, stretch[2], stretch[2]);
    there.addVertex(0, 496 + stretch[0], 496 + stretch[1]);
    there.choose(0, 0);
    back.addLine(496 + stretch[0], 496 + stretch[1], 5, stretch[2], stretch[2]);
    back.addVertex(0, 496, 496);
    back.choose(0, 5);
    return there.nameFrom(0) == back.nameFrom(0) ? there.nameFrom(0) : -1;
  }

  private void middlesOfStretches() {
    Cartouche map = new Cartouche();
    map.addLine(100, 100, 5, 3, 2);
    map.addVertex(0, 201, 100);
    map.addVertex(0, 201, 203);
    map.addVertex(0, 100, 100);
    int[][] middles = {{150, 100}, {201, 151}, {150, 151}};
    for (int stretch = 0; stretch < 3; stretch++) {
      map.choose(0, stretch);
      dueBox("21 and 22, the stretch " + stretch, map, 0, 3, middles[stretch][0] - 9, middles[stretch][1] - 12);
      map.choose(0, stretch + 5);
      dueBox("21 and 22, short, the stretch " + stretch, map, 0, 3, middles[stretch][0] - 6, middles[stretch][1] - 12);
    }
    // Both ends are rounded before their middle is: 15 is at 1 of the zoom 0, and 16 at 2.
    Cartouche rounded = new Cartouche();
    rounded.addLine(15, 100, 5, 1, 1);
    rounded.addVertex(0, 223, 100);
    rounded.choose(0, 0);
    dueBox("21 and 22, of 1 and 27", rounded, 0, 0, 14 - 3, 12 - 12);
    rounded.shift(0, 1, 3);
    dueBox("21 and 22, of 2 and 28", rounded, 0, 0, 15 - 3, 12 - 12);
  }

  private void linesOnTheEdge() {
    Cartouche map = new Cartouche();
    map.addLine(400, 12, 5, 1, 1);
    map.addVertex(0, 600, 12);
    map.choose(0, 0);
    check.due("17 with the upper end 0 at the zoom 3", map.nameFrom(0), 3);
    map.shift(0, 0, -1);
    check.due("17 one place above the screen at the zoom 3", map.nameFrom(0), 4);
    map.shift(0, 0, -8);
    check.due("17 the upper end 0 at the zoom 5", map.nameFrom(0), 5);
    map.shift(0, 0, -1);
    check.due("17 four places above the screen at the zoom 5", map.nameFrom(0), 6);
    map.shift(0, 0, 997);
    check.due("17 at the last place", map.nameFrom(0), 0);
    Cartouche upright = new Cartouche();
    upright.addLine(3, 400, 5, 1, 1);
    upright.addVertex(0, 3, 600);
    upright.choose(0, 0);
    check.due("17 with the left end 0 at the zoom 3", upright.nameFrom(0), 3);
    upright.shift(0, -1, 0);
    check.due("17 left of the screen by one place at the zoom 3", upright.nameFrom(0), 4);
    upright.shift(0, -2, 0);
    check.due("17 at the place 0", upright.nameFrom(0), 6);
    upright.shift(0, 997, 0);
    check.due("17 with the right end of the screen at the zoom 3", upright.nameFrom(0), 3);
    upright.shift(0, 1, 0);
    check.due("17 one place beyond it at the zoom 3", upright.nameFrom(0), 4);
    upright.shift(0, 1, 0);
    check.due("17 at the place 999", upright.nameFrom(0), 5);
  }

  // ---- candidates of areas

  /** A name of 6 n places needs as many, and one more; one of 10 or 20 likewise. */
  private void sizesOfAreas() {
    // Width and height of the area, the letters, and whether a candidate is seen from the zoom 3 or 4 on.
    int[][] sizes = {
      {6, 10, 1, 0, 3}, {5, 10, 1, 0, 4}, {6, 9, 1, 0, 4}, {7, 11, 1, 0, 3}, {5, 500, 1, 0, 4}, {6, 500, 1, 0, 3},
      {500, 9, 1, 0, 4}, {500, 10, 1, 0, 3}, {6, 20, 1, 1, 3}, {6, 19, 1, 1, 4}, {6, 20, 2, 1, 3}, {5, 20, 2, 1, 4},
      {12, 20, 3, 1, 3}, {11, 20, 3, 1, 4}, {12, 20, 4, 1, 3}, {12, 10, 2, 0, 3}, {11, 10, 2, 0, 4},
      {120, 10, 20, 0, 3}, {119, 10, 20, 0, 4}, {120, 9, 20, 0, 4}, {60, 20, 20, 1, 3}, {59, 20, 20, 1, 4},
      {60, 19, 20, 1, 4}, {60, 20, 19, 1, 3}, {59, 20, 19, 1, 4},
    };
    for (int[] size : sizes) {
      // 496 is a multiple of 16, so that the corners are just the half at the next lower zoom.
      for (int corner = 0; corner < 4; corner++) {
        int x = corner % 2 == 0 ? 496 : 496 + size[0];
        int y = corner / 2 == 0 ? 480 : 480 + size[1];
        for (int form = 0; form < 2; form++) {
          Cartouche map = new Cartouche();
          map.addArea(x, y, 992 + size[0] - x, 960 + size[1] - y, 5, form == 0 ? size[2] : 20, size[2]);
          map.choose(0, size[3] + 2 * form);
          check.due("17 " + size[0] + " by " + size[1] + " for " + size[2] + " letters, corner " + corner + ", form "
              + form, map.nameFrom(0), size[4]);
        }
      }
    }
  }

  private void cornersOfAreas() {
    int[][] corners = {{100, 200, 301, 403}, {301, 403, 100, 200}, {100, 403, 301, 200}, {301, 200, 100, 403}};
    for (int[] c : corners) {
      Cartouche map = new Cartouche();
      map.addArea(c[0], c[1], c[2], c[3], 5, 5, 3);
      int[] widths = {30, 18, 18, 12};
      for (int candidate = 0; candidate < 4; candidate++) {
        map.choose(0, candidate);
        dueBox("21 and 22, from " + c[0] + ", " + c[1] + ", candidate " + candidate, map, 0, 3,
            200 - widths[candidate] / 2, candidate % 2 == 0 ? 301 - 5 : 301 - 10);
        check.due("23 the width", map.widthOf(0), widths[candidate]);
      }
      check.due("28 the first corner", map.square(0), 8 * (c[1] / 125) + c[0] / 125);
    }
  }

  private void areasOnTheEdge() {
    Cartouche map = new Cartouche();
    map.addArea(0, 0, 999, 999, 5, 20, 1);
    for (int candidate = 0; candidate < 4; candidate++) {
      map.choose(0, candidate);
      check.due("17 the greatest area", map.nameFrom(0), 0);
    }
    map.choose(0, 0);
    dueBox("21 and 22, 120 of 125 places", map, 0, 0, 62 - 60, 62 - 5);
    int[][] corners = {{0, 0}, {993, 0}, {0, 989}, {993, 989}};
    for (int i = 0; i < 4; i++) {
      map.addArea(corners[i][0], corners[i][1], corners[i][0] + 6, corners[i][1] + 10, 5, 1, 1);
      map.choose(i + 1, 0);
      check.due("17 a small area in the corner " + i, map.nameFrom(i + 1), 3);
      dueBox("21 and 22, in the corner " + i, map, i + 1, 3, corners[i][0], corners[i][1]);
    }
    map.addArea(999, 999, 999, 999, 5, 1, 1);
    for (int candidate = 0; candidate < 4; candidate++) {
      map.choose(5, candidate);
      check.due("17 an area of one place", map.nameFrom(5), 6);
    }
  }
}
