import java.util.concurrent.Callable;

/** Fixed maps to begin with, and a long series of calls that shows whether two maps are alike. */
final class Story {
  /** The numbers of features that a series asks for: all that can be, and one beyond. */
  private static final int NUMBERS = 25;
  private static final int[][] TILES = {{0, 0, 0}, {3, 7, 7}, {3, 8, 7}, {5, 0, 0}, {5, 31, 31}, {5, 62, 62}};

  private Story() {
  }

  static Cartouche empty() {
    Cartouche map = new Cartouche();
    askTiles(map, new StringBuilder());
    return map;
  }

  /**
   * The points 0, 1 and 6, the line 2 with 6 vertices and the line 3 with 2, and the area 4; the number 5
   * is gone. There are wishes, locks, a turn, kept tiles, names that are seen and others that are not.
   */
  static Cartouche crowded() {
    Cartouche map = new Cartouche();
    map.addPoint(500, 500, 5, 2, 6, 3);
    map.addPoint(520, 500, 0, 0, 6, 3);
    map.addLine(100, 100, 4, 10, 5);
    map.addVertex(2, 700, 130);
    map.addVertex(2, 700, 600);
    map.addVertex(2, 200, 620);
    map.addVertex(2, 250, 250);
    map.addVertex(2, 800, 260);
    map.addLine(300, 310, 2, 4, 4);
    map.addVertex(3, 400, 300);
    map.addArea(300, 600, 800, 900, 6, 12, 6);
    map.addPoint(0, 0, 9, 8, 20, 20);
    map.addPoint(700, 750, 1, 8, 3, 1);
    map.remove(5);
    map.turn(1);
    map.setWish(1, 7);
    map.setWish(4, 9);
    map.place();
    for (int feature = 0; feature < 4; feature++) {
      map.lock(feature, true);
    }
    map.choose(0, 0);
    map.choose(6, -1);
    askTiles(map, new StringBuilder());
    return map;
  }

  /** 24 features: points, lines with two vertices and areas by turns. */
  static Cartouche full() {
    Cartouche map = new Cartouche();
    for (int i = 0; i < 24; i++) {
      int x = 40 * i;
      int y = 7 * i * i % 1000;
      if (i % 3 == 0) {
        map.addPoint(x, y, i % 10, i % 9, 1 + i % 20, 1);
      } else if (i % 3 == 1) {
        map.addLine(x, y, i % 10, 1 + i % 20, 1);
        map.addVertex(i, y, x);
      } else {
        map.addArea(x, y, y, x, i % 10, 1 + i % 20, 1);
      }
    }
    map.place();
    askTiles(map, new StringBuilder());
    return map;
  }

  private static void askTiles(Cartouche map, StringBuilder text) {
    for (int[] tile : TILES) {
      text.append(' ').append(map.namesIn(tile[0], tile[1], tile[2]));
    }
  }

  /**
   * What the map answers to a long series of calls. Some of these change it, since wishes, locks, the turn and
   * the vertices can't be asked in another way: so this is the last that is done with a map.
   */
  static String told(Cartouche map) {
    StringBuilder text = new StringBuilder();
    text.append("features ").append(map.features()).append(", cost ").append(map.cost());
    add(text, ", least cost", map::leastCost);
    add(text, ", mean", map::meanFrom);
    text.append(", drawn ").append(map.drawn()).append(", tiles");
    askTiles(map, text);
    text.append(", drawn then ").append(map.drawn()).append(", consistent ").append(map.isConsistent());
    for (int i = 0; i < 6; i++) {
      int zoom = i;
      add(text, ", share", () -> map.namedShare(zoom));
    }
    for (int feature = 0; feature < NUMBERS; feature++) {
      tellFeature(map, feature, text);
    }
    for (int square : new int[] {0, 21, 36, 45}) {
      add(text, "; indexed", () -> map.indexed(square, 0));
      add(text, ",", () -> map.indexed(square, 1));
    }
    text.append("; turn ").append(map.turn(0)).append(", placed ").append(map.place());
    text.append(", improved ").append(map.improve(30)).append(", cost ").append(map.cost());
    add(text, ", next", () -> map.addPoint(1, 1, 1, 1, 1, 1));
    text.append(", features ").append(map.features());
    return text.toString();
  }

  private static void tellFeature(Cartouche map, int feature, StringBuilder text) {
    add(text, "; " + feature + ":", () -> map.candidateOf(feature));
    add(text, "", () -> map.candidates(feature));
    add(text, "", () -> map.nameFrom(feature));
    add(text, "", () -> map.seenFrom(feature));
    add(text, "", () -> map.square(feature));
    add(text, "", () -> map.widthOf(feature));
    add(text, "", () -> map.left(feature, 5));
    add(text, "", () -> map.top(feature, 5));
    add(text, "", () -> map.lock(feature, false));
    add(text, "", () -> map.setWish(feature, feature % 4));
    add(text, "", () -> map.shift(feature, -1, 1));
    add(text, "", () -> map.addVertex(feature, 999, 999));
  }

  private static void add(StringBuilder text, String what, Callable<?> call) {
    text.append(what).append(' ').append(Check.answer(call));
  }
}
