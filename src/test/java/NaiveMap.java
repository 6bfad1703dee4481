import java.util.ArrayList;
import java.util.HashMap;
import java.util.List;
import java.util.Map;
import java.util.NoSuchElementException;
import java.util.TreeSet;

/**
 * The document told once more, as slowly and plainly as it can be: nothing is kept but what was set,
 * and every question is worked out from there. NaiveTest compares its answers with those of Cartouche.
 */
public final class NaiveMap {
  private static final class Thing {
    char kind;
    int number;
    int rank;
    int wish;
    int reach;
    int letters;
    int shorter;
    int candidate = -1;
    boolean locked;
    List<int[]> spots = new ArrayList<>();

    int forms() {
      return kind == 'p' ? 8 : kind == 'l' ? 5 : 2;
    }
  }

  private final List<Thing> things = new ArrayList<>();
  private final TreeSet<String> keptTiles = new TreeSet<>();
  private int numbers = 0;
  private int turned = 0;
  private int drawnTiles = 0;

  // ---- checks

  private static boolean outside(int value, int least, int most) {
    return value < least || value > most;
  }

  private static void places(int... values) {
    for (int value : values) {
      if (outside(value, 0, 999)) {
        throw new IllegalArgumentException();
      }
    }
  }

  private static void zoomed(int zoom) {
    if (outside(zoom, 0, 5)) {
      throw new IllegalArgumentException();
    }
  }

  private Thing thing(int number) {
    for (Thing thing : things) {
      if (thing.number == number) {
        return thing;
      }
    }
    throw new IndexOutOfBoundsException();
  }

  private int added(char kind, int rank, int reach, int letters, int shorter, int... spots) {
    places(spots);
    if (outside(rank, 0, 9) || outside(reach, 0, 8) || outside(letters, 1, 20)
        || outside(shorter, 1, 20) || shorter > letters) {
      throw new IllegalArgumentException();
    }
    if (numbers == 24) {
      throw new IllegalStateException();
    }
    Thing thing = new Thing();
    thing.kind = kind;
    thing.number = numbers++;
    thing.rank = rank;
    thing.reach = reach;
    thing.letters = letters;
    thing.shorter = shorter;
    for (int i = 0; i < spots.length; i += 2) {
      thing.spots.add(new int[] {spots[i], spots[i + 1]});
    }
    things.add(thing);
    keptTiles.clear();
    return thing.number;
  }

  /** The numbers of the features that are there, for a test that wants to ask for one of them. */
  List<Integer> numbersThere() {
    List<Integer> there = new ArrayList<>();
    for (Thing thing : things) {
      there.add(thing.number);
    }
    return there;
  }

  // ---- screens

  private List<Thing> byStrength() {
    List<Thing> sorted = new ArrayList<>(things);
    sorted.sort((a, b) -> a.rank + a.wish != b.rank + b.wish
        ? b.rank + b.wish - a.rank - a.wish : a.number - b.number);
    return sorted;
  }

  private int[] onScreen(int[] spot, int zoom) {
    int x = spot[0];
    int y = spot[1];
    int[][] all = {{x, y}, {999 - y, x}, {999 - x, 999 - y}, {y, 999 - x}};
    double scale = Math.pow(2, zoom) / 8;
    return new int[] {(int) Math.floor(all[turned][0] * scale), (int) Math.floor(all[turned][1] * scale)};
  }

  /** Two boxes, each its left, upper, right and lower end, have a place in common. */
  private static boolean common(int[] a, int[] b) {
    return Math.max(a[0], b[0]) < Math.min(a[2], b[2]) && Math.max(a[1], b[1]) < Math.min(a[3], b[3]);
  }

  private static boolean contains(int[] outer, int[] inner) {
    return inner[0] >= outer[0] && inner[1] >= outer[1] && inner[2] <= outer[2] && inner[3] <= outer[3];
  }

  private int[] symbol(Thing point, int zoom) {
    int[] at = onScreen(point.spots.get(0), zoom);
    return new int[] {at[0] - point.reach, at[1] - point.reach, at[0] + point.reach + 1, at[1] + point.reach + 1};
  }

  private Map<Thing, Integer> symbolsFrom() {
    Map<Thing, Integer> from = new HashMap<>();
    List<Thing> sorted = byStrength();
    for (Thing thing : sorted) {
      int least = 6;
      for (int zoom = 0; zoom < 6 && least == 6; zoom++) {
        boolean free = true;
        for (int z = zoom; z < 6 && thing.kind == 'p'; z++) {
          for (Thing other : sorted) {
            if (other == thing) {
              break;
            }
            if (other.kind == 'p' && from.get(other) <= z && common(symbol(thing, z), symbol(other, z))) {
              free = false;
            }
          }
        }
        if (free) {
          least = zoom;
        }
      }
      from.put(thing, least);
    }
    return from;
  }

  private static int width(Thing thing, int candidate) {
    int n = candidate >= thing.forms() ? thing.shorter : thing.letters;
    return thing.kind == 'a' && candidate % 2 == 1 ? 6 * (int) Math.ceil(n / 2.0) : 6 * n;
  }

  private int[] box(Thing thing, int candidate, int zoom) {
    int w = width(thing, candidate);
    int h = thing.kind == 'a' && candidate % 2 == 1 ? 20 : 10;
    int within = candidate % thing.forms();
    int left;
    int top;
    if (thing.kind == 'p') {
      int[] at = onScreen(thing.spots.get(0), zoom);
      int s = thing.reach;
      int right = at[0] + s + 1;
      int middle = at[0] - w / 2;
      int before = at[0] - s - w;
      int level = at[1] - 5;
      int above = at[1] - s - 1 - h;
      int below = at[1] + s + 1;
      left = new int[] {right, middle, middle, before, right, right, before, before}[within];
      top = new int[] {level, above, below, level, above, below, above, below}[within];
    } else {
      if (thing.kind == 'l' && within + 1 >= thing.spots.size()) {
        return null;
      }
      int first = thing.kind == 'l' ? within : 0;
      int[] a = onScreen(thing.spots.get(first), zoom);
      int[] b = onScreen(thing.spots.get(first + 1), zoom);
      left = (int) Math.floor((a[0] + b[0]) / 2.0 - w / 2.0);
      top = (int) Math.floor((a[1] + b[1]) / 2.0 - (thing.kind == 'l' ? 12 : h / 2.0));
    }
    return new int[] {left, top, left + w, top + h};
  }

  private boolean good(Thing thing, int candidate, int zoom) {
    int[] name = box(thing, candidate, zoom);
    int size = 125 * (int) Math.pow(2, zoom);
    if (name == null || !contains(new int[] {0, 0, size, size}, name)) {
      return false;
    }
    if (thing.kind == 'p') {
      return true;
    }
    int first = thing.kind == 'l' ? candidate % 5 : 0;
    int[] a = onScreen(thing.spots.get(first), zoom);
    int[] b = onScreen(thing.spots.get(first + 1), zoom);
    if (thing.kind == 'l') {
      return Math.pow(a[0] - b[0], 2) + Math.pow(a[1] - b[1], 2) >= Math.pow(width(thing, candidate), 2);
    }
    int[] extent = {Math.min(a[0], b[0]), Math.min(a[1], b[1]), Math.max(a[0], b[0]) + 1, Math.max(a[1], b[1]) + 1};
    return contains(extent, name);
  }

  private Map<Thing, Integer> namesFrom() {
    Map<Thing, Integer> symbols = symbolsFrom();
    Map<Thing, Integer> from = new HashMap<>();
    List<Thing> sorted = byStrength();
    for (Thing thing : sorted) {
      int least = 6;
      for (int zoom = symbols.get(thing); zoom < 6 && least == 6 && thing.candidate >= 0; zoom++) {
        boolean free = true;
        for (int z = zoom; z < 6; z++) {
          free = free && good(thing, thing.candidate, z) && alone(thing, z, sorted, from, symbols);
        }
        if (free) {
          least = zoom;
        }
      }
      from.put(thing, least);
    }
    return from;
  }

  private boolean alone(Thing thing, int zoom, List<Thing> sorted, Map<Thing, Integer> from,
      Map<Thing, Integer> symbols) {
    int[] name = box(thing, thing.candidate, zoom);
    boolean stronger = true;
    for (Thing other : sorted) {
      if (other == thing) {
        stronger = false;
        continue;
      }
      if (stronger && from.get(other) <= zoom && common(name, box(other, other.candidate, zoom))) {
        return false;
      }
      if (other.kind == 'p' && symbols.get(other) <= zoom && common(name, symbol(other, zoom))) {
        return false;
      }
    }
    return true;
  }

  private static long ownCost(Thing thing, int from) {
    int taste = thing.candidate < 0 ? 16
        : thing.candidate % thing.forms() + (thing.candidate >= thing.forms() ? 8 : 0);
    return (thing.rank + 1L) * from * 20 + taste;
  }

  // ---- features

  public int addPoint(int x, int y, int rank, int reach, int letters, int shorter) {
    return added('p', rank, reach, letters, shorter, x, y);
  }

  public int addLine(int x, int y, int rank, int letters, int shorter) {
    return added('l', rank, 0, letters, shorter, x, y);
  }

  public int addVertex(int feature, int x, int y) {
    Thing thing = thing(feature);
    places(x, y);
    if (thing.kind != 'l') {
      throw new UnsupportedOperationException();
    }
    if (thing.spots.size() == 6) {
      throw new IllegalStateException();
    }
    thing.spots.add(new int[] {x, y});
    keptTiles.clear();
    return thing.spots.size();
  }

  public int addArea(int x, int y, int otherX, int otherY, int rank, int letters, int shorter) {
    return added('a', rank, 0, letters, shorter, x, y, otherX, otherY);
  }

  public int remove(int feature) {
    things.remove(thing(feature));
    keptTiles.clear();
    return things.size();
  }

  public int setWish(int feature, int wish) {
    Thing thing = thing(feature);
    if (outside(wish, 0, 9)) {
      throw new IllegalArgumentException();
    }
    int before = thing.wish;
    thing.wish = wish;
    keptTiles.clear();
    return before;
  }

  public int shift(int feature, int dx, int dy) {
    Thing thing = thing(feature);
    Map<Thing, Integer> before = namesFrom();
    List<int[]> moved = new ArrayList<>();
    for (int[] spot : thing.spots) {
      long x = (long) spot[0] + dx;
      long y = (long) spot[1] + dy;
      if (x < 0 || x > 999 || y < 0 || y > 999) {
        throw new UnsupportedOperationException();
      }
      moved.add(new int[] {(int) x, (int) y});
    }
    thing.spots = moved;
    keptTiles.clear();
    Map<Thing, Integer> after = namesFrom();
    int changed = 0;
    for (Thing each : things) {
      changed += after.get(each).equals(before.get(each)) ? 0 : 1;
    }
    return changed;
  }

  public int turn(int turn) {
    if (outside(turn, 0, 3)) {
      throw new IllegalArgumentException();
    }
    int before = turned;
    turned = turn;
    keptTiles.clear();
    return before;
  }

  public boolean lock(int feature, boolean isLocked) {
    Thing thing = thing(feature);
    boolean before = thing.locked;
    thing.locked = isLocked;
    return before;
  }

  public int features() {
    return things.size();
  }

  // ---- placement

  public int place() {
    int changed = 0;
    for (Thing thing : byStrength()) {
      if (thing.locked) {
        continue;
      }
      int before = thing.candidate;
      int best = -1;
      long least = Long.MAX_VALUE;
      for (int i = 0; i <= 2 * thing.forms(); i++) {
        thing.candidate = i == 2 * thing.forms() ? -1 : i;
        long own = ownCost(thing, namesFrom().get(thing));
        if (own < least) {
          least = own;
          best = thing.candidate;
        }
      }
      thing.candidate = best;
      changed += best == before ? 0 : 1;
    }
    keptTiles.clear();
    return changed;
  }

  public int improve(int trials) {
    if (outside(trials, 1, 500)) {
      throw new IllegalArgumentException();
    }
    keptTiles.clear();
    int made = 0;
    boolean changed = true;
    while (changed) {
      changed = false;
      for (Thing thing : byStrength()) {
        for (int i = 0; i <= 2 * thing.forms() && !thing.locked; i++) {
          int candidate = i == 2 * thing.forms() ? -1 : i;
          if (candidate == thing.candidate) {
            continue;
          }
          if (made == trials) {
            return made;
          }
          made++;
          int before = thing.candidate;
          long costBefore = cost();
          thing.candidate = candidate;
          if (cost() < costBefore) {
            changed = true;
          } else {
            thing.candidate = before;
          }
        }
      }
    }
    return made;
  }

  public int choose(int feature, int candidate) {
    Thing thing = thing(feature);
    if (outside(candidate, -1, 2 * thing.forms() - 1)) {
      throw new IllegalArgumentException();
    }
    int before = thing.candidate;
    thing.candidate = candidate;
    keptTiles.clear();
    return before;
  }

  public int candidates(int feature) {
    return 2 * thing(feature).forms();
  }

  public int candidateOf(int feature) {
    return thing(feature).candidate;
  }

  public int nameFrom(int feature) {
    return namesFrom().get(thing(feature));
  }

  public int seenFrom(int feature) {
    return symbolsFrom().get(thing(feature));
  }

  public long cost() {
    Map<Thing, Integer> from = namesFrom();
    long sum = 0;
    for (Thing thing : things) {
      sum += ownCost(thing, from.get(thing));
    }
    return sum;
  }

  public long leastCost() {
    List<Thing> free = new ArrayList<>();
    long placements = 1;
    for (Thing thing : things) {
      if (!thing.locked) {
        free.add(thing);
        placements = Math.min(1000000, placements * (2 * thing.forms() + 1));
      }
    }
    if (placements > 3000) {
      throw new UnsupportedOperationException();
    }
    List<Integer> before = new ArrayList<>();
    for (Thing thing : free) {
      before.add(thing.candidate);
    }
    long least = Long.MAX_VALUE;
    for (int number = 0; number < placements; number++) {
      int rest = number;
      for (Thing thing : free) {
        thing.candidate = rest % (2 * thing.forms() + 1) - 1;
        rest /= 2 * thing.forms() + 1;
      }
      least = Math.min(least, cost());
    }
    for (int i = 0; i < free.size(); i++) {
      free.get(i).candidate = before.get(i);
    }
    return least;
  }

  // ---- screens

  private int[] seenBox(int feature, int zoom) {
    Thing thing = thing(feature);
    zoomed(zoom);
    if (namesFrom().get(thing) > zoom) {
      throw new NoSuchElementException();
    }
    return box(thing, thing.candidate, zoom);
  }

  public int left(int feature, int zoom) {
    return seenBox(feature, zoom)[0];
  }

  public int top(int feature, int zoom) {
    return seenBox(feature, zoom)[1];
  }

  public int widthOf(int feature) {
    Thing thing = thing(feature);
    if (thing.candidate < 0) {
      throw new NoSuchElementException();
    }
    return width(thing, thing.candidate);
  }

  /** The features whose names are seen in a zoom and have a place in common with a box, by strength. */
  private List<Integer> namesAmid(int zoom, int[] amid) {
    Map<Thing, Integer> from = namesFrom();
    List<Integer> names = new ArrayList<>();
    for (Thing thing : byStrength()) {
      if (from.get(thing) <= zoom && common(amid, box(thing, thing.candidate, zoom))) {
        names.add(thing.number);
      }
    }
    return names;
  }

  public int nameAt(int x, int y, int zoom) {
    zoomed(zoom);
    if (outside(x, 0, 3999) || outside(y, 0, 3999)) {
      throw new NoSuchElementException();
    }
    List<Integer> names = namesAmid(zoom, new int[] {x, y, x + 1, y + 1});
    if (names.isEmpty()) {
      throw new NoSuchElementException();
    }
    return names.get(0);
  }

  private static boolean onMap(int zoom, int tileX, int tileY) {
    int last = (int) Math.ceil(125 * Math.pow(2, zoom) / 64) - 1;
    return !outside(tileX, 0, last) && !outside(tileY, 0, last);
  }

  private List<Integer> tile(int zoom, int tileX, int tileY) {
    return namesAmid(zoom, new int[] {64 * tileX, 64 * tileY, 64 * tileX + 64, 64 * tileY + 64});
  }

  private void asked(int zoom, int tileX, int tileY) {
    if (keptTiles.add(zoom + " " + tileX + " " + tileY)) {
      drawnTiles++;
    }
  }

  public int namesIn(int zoom, int tileX, int tileY) {
    zoomed(zoom);
    if (!onMap(zoom, tileX, tileY)) {
      return 0;
    }
    asked(zoom, tileX, tileY);
    return tile(zoom, tileX, tileY).size();
  }

  public int nameIn(int zoom, int tileX, int tileY, int index) {
    zoomed(zoom);
    if (!onMap(zoom, tileX, tileY) || outside(index, 0, tile(zoom, tileX, tileY).size() - 1)) {
      throw new NoSuchElementException();
    }
    asked(zoom, tileX, tileY);
    return tile(zoom, tileX, tileY).get(index);
  }

  public int drawn() {
    return drawnTiles;
  }

  public int square(int feature) {
    int[] spot = thing(feature).spots.get(0);
    return 8 * (spot[1] / 125) + spot[0] / 125;
  }

  public int indexed(int square, int rank) {
    if (outside(square, 0, 63)) {
      throw new IllegalArgumentException();
    }
    List<Integer> found = new ArrayList<>();
    for (Thing thing : byStrength()) {
      if (square(thing.number) == square) {
        found.add(thing.number);
      }
    }
    if (outside(rank, 0, found.size() - 1)) {
      throw new NoSuchElementException();
    }
    return found.get(rank);
  }

  public float namedShare(int zoom) {
    zoomed(zoom);
    if (things.isEmpty()) {
      throw new ArithmeticException();
    }
    int seen = 0;
    for (int from : namesFrom().values()) {
      seen += from <= zoom ? 1 : 0;
    }
    return (float) seen / (float) things.size();
  }

  public double meanFrom() {
    if (things.isEmpty()) {
      throw new ArithmeticException();
    }
    int sum = 0;
    for (int from : namesFrom().values()) {
      sum += from;
    }
    return (double) sum / (double) things.size();
  }

  public boolean isConsistent() {
    return true;
  }
}
