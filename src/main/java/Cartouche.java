import java.util.ArrayList;
import java.util.Arrays;
import java.util.NoSuchElementException;

/** An engine that letters maps; what it promises is told in the document. */
public final class Cartouche {
  private static final int MOST_FEATURES = 24;
  private static final int MOST_PLACES = 6;
  private static final int MOST_CHOICES = 16;
  private static final int LAST_PLACE = 999;
  private static final int ZOOMS = 6;
  private static final int LAST_ZOOM = 5;
  private static final int NEVER = 6;
  private static final int NONE = -1;
  private static final int SCREEN = 125;
  private static final int LETTER_WIDTH = 6;
  private static final int LINE_HEIGHT = 10;
  private static final int LINE_RISE = 12;
  private static final int ZOOM_COST = 20;
  private static final int SHORT_TASTE = 8;
  private static final int NO_NAME_TASTE = 16;
  private static final int MOST_TRIALS = 500;
  private static final int MOST_PLACEMENTS = 3000;
  private static final int TILE = 64;
  private static final int ALL_TILES = 5333;
  private static final int NOT_KEPT = -1;
  private static final int SQUARES = 64;
  private static final int SQUARE_SIDE = 125;

  /** The features that are there, the strongest first. */
  private final ArrayList<Feature> order;
  /**
   * For each tile of each zoom the names in it, or NOT_KEPT. A name's bit is its feature's position
   * in the order: whatever changes the order drops all tiles.
   */
  private final int[] tiles;
  /** A tile that is drawn. */
  private final Box window;
  private int given;
  private int turn;
  private int drawn;

  public Cartouche() {
    order = new ArrayList<>();
    tiles = new int[ALL_TILES];
    Arrays.fill(tiles, NOT_KEPT);
    window = new Box();
  }

  // ---- features

  public int addPoint(int x, int y, int rank, int reach, int letters, int shorter)
      throws IllegalArgumentException, IllegalStateException {
    if (!isPlace(x, y) || !isWithin(reach, 0, 8) || !isNamed(rank, letters, shorter)) {
      throw new IllegalArgumentException("a number is out of range");
    }
    if (given >= MOST_FEATURES) {
      throw new IllegalStateException("there were 24 features");
    }
    Point point = new Point(given, rank, letters, shorter, reach);
    point.addPlace(x, y);
    enter(point);
    survey();
    return point.number;
  }

  public int addLine(int x, int y, int rank, int letters, int shorter)
      throws IllegalArgumentException, IllegalStateException {
    if (!isPlace(x, y) || !isNamed(rank, letters, shorter)) {
      throw new IllegalArgumentException("a number is out of range");
    }
    if (given >= MOST_FEATURES) {
      throw new IllegalStateException("there were 24 features");
    }
    Line line = new Line(given, rank, letters, shorter);
    line.addPlace(x, y);
    enter(line);
    survey();
    return line.number;
  }

  public int addVertex(int feature, int x, int y)
      throws IndexOutOfBoundsException, IllegalArgumentException, UnsupportedOperationException,
      IllegalStateException {
    Feature found = existing(feature);
    if (!isPlace(x, y)) {
      throw new IllegalArgumentException("a number is out of range");
    }
    if (!(found instanceof Line)) {
      throw new UnsupportedOperationException("it is no line");
    }
    if (found.places >= MOST_PLACES) {
      throw new IllegalStateException("it has 6 vertices");
    }
    found.addPlace(x, y);
    survey();
    return found.places;
  }

  public int addArea(int x, int y, int otherX, int otherY, int rank, int letters, int shorter)
      throws IllegalArgumentException, IllegalStateException {
    if (!isPlace(x, y) || !isPlace(otherX, otherY) || !isNamed(rank, letters, shorter)) {
      throw new IllegalArgumentException("a number is out of range");
    }
    if (given >= MOST_FEATURES) {
      throw new IllegalStateException("there were 24 features");
    }
    Area area = new Area(given, rank, letters, shorter);
    area.addPlace(x, y);
    area.addPlace(otherX, otherY);
    enter(area);
    survey();
    return area.number;
  }

  public int remove(int feature) throws IndexOutOfBoundsException {
    takeOut(existing(feature));
    survey();
    return order.size();
  }

  public int setWish(int feature, int wish)
      throws IndexOutOfBoundsException, IllegalArgumentException {
    Feature found = existing(feature);
    if (!isWithin(wish, 0, 9)) {
      throw new IllegalArgumentException("the wish is out of range");
    }
    int before = found.wish;
    takeOut(found);
    found.wish = wish;
    putIn(found);
    survey();
    return before;
  }

  public int shift(int feature, int dx, int dy)
      throws IndexOutOfBoundsException, UnsupportedOperationException {
    Feature found = existing(feature);
    if (!found.canMove(dx, dy)) {
      throw new UnsupportedOperationException("a place would be out of range");
    }
    saveFroms(0);
    found.move(dx, dy);
    survey();
    return changedFroms();
  }

  public int turn(int turn) throws IllegalArgumentException {
    if (!isWithin(turn, 0, 3)) {
      throw new IllegalArgumentException("there is no such turn");
    }
    int before = this.turn;
    this.turn = turn;
    survey();
    return before;
  }

  public boolean lock(int feature, boolean isLocked) throws IndexOutOfBoundsException {
    Feature found = existing(feature);
    boolean before = found.isLocked;
    found.isLocked = isLocked;
    return before;
  }

  public int features() {
    return order.size();
  }

  // ---- placement

  public int place() {
    int changed = 0;
    for (int at = 0; at < order.size(); at++) {
      Feature feature = order.get(at);
      int before = feature.candidate;
      if (!feature.isLocked) {
        feature.candidate = bestChoice(feature);
      }
      feature.nameFrom = nameFromOf(feature);
      if (feature.candidate != before) {
        changed++;
      }
    }
    dropTiles();
    return changed;
  }

  public int improve(int trials) throws IllegalArgumentException {
    if (!isWithin(trials, 1, MOST_TRIALS)) {
      throw new IllegalArgumentException("the number of trials is out of range");
    }
    int open = trials;
    boolean isChanged = true;
    // Each further round follows a change, which took a trial: so there are no more rounds than trials.
    for (int round = 0; round <= MOST_TRIALS && isChanged && open > 0; round++) {
      long before = costFrom(0);
      for (int at = 0; at < order.size(); at++) {
        open -= improveAt(order.get(at), at, open);
      }
      // A change always lowers the cost.
      isChanged = costFrom(0) < before;
    }
    dropTiles();
    return trials - open;
  }

  public int choose(int feature, int candidate)
      throws IndexOutOfBoundsException, IllegalArgumentException {
    Feature found = existing(feature);
    if (!isWithin(candidate, NONE, found.choices() - 1)) {
      throw new IllegalArgumentException("it has no such candidate");
    }
    int before = found.candidate;
    found.candidate = candidate;
    settleFrom(0);
    dropTiles();
    return before;
  }

  public int candidates(int feature) throws IndexOutOfBoundsException {
    return existing(feature).choices();
  }

  public int candidateOf(int feature) throws IndexOutOfBoundsException {
    return existing(feature).candidate;
  }

  public int nameFrom(int feature) throws IndexOutOfBoundsException {
    return existing(feature).nameFrom;
  }

  public int seenFrom(int feature) throws IndexOutOfBoundsException {
    return existing(feature).seenFrom;
  }

  public long cost() {
    return costFrom(0);
  }

  public long leastCost() throws UnsupportedOperationException {
    if (placements() > MOST_PLACEMENTS) {
      throw new UnsupportedOperationException("there are more than 3000 placements");
    }
    return leastAt(0, 0, costFrom(0));
  }

  // ---- screens

  public int left(int feature, int zoom)
      throws IndexOutOfBoundsException, IllegalArgumentException, NoSuchElementException {
    Feature found = existing(feature);
    checkZoom(zoom);
    if (!found.isNameSeen(zoom)) {
      throw new NoSuchElementException("its name is not seen there");
    }
    Box box = found.boxOf(found.candidate, zoom);
    return box == null ? 0 : box.left;
  }

  public int top(int feature, int zoom)
      throws IndexOutOfBoundsException, IllegalArgumentException, NoSuchElementException {
    Feature found = existing(feature);
    checkZoom(zoom);
    if (!found.isNameSeen(zoom)) {
      throw new NoSuchElementException("its name is not seen there");
    }
    Box box = found.boxOf(found.candidate, zoom);
    return box == null ? 0 : box.top;
  }

  public int widthOf(int feature) throws IndexOutOfBoundsException, NoSuchElementException {
    Feature found = existing(feature);
    if (found.candidate == NONE) {
      throw new NoSuchElementException("it has no candidate");
    }
    return found.widthFor(found.candidate);
  }

  public int nameAt(int x, int y, int zoom)
      throws IllegalArgumentException, NoSuchElementException {
    checkZoom(zoom);
    for (int at = 0; at < order.size(); at++) {
      Feature feature = order.get(at);
      Box box = feature.boxOf(feature.candidate, zoom);
      if (feature.isNameSeen(zoom) && box != null && box.has(x, y)) {
        return feature.number;
      }
    }
    throw new NoSuchElementException("no name is there");
  }

  public int namesIn(int zoom, int tileX, int tileY) throws IllegalArgumentException {
    checkZoom(zoom);
    if (!isTile(zoom, tileX, tileY)) {
      return 0;
    }
    int names = askTile(zoom, tileX, tileY);
    keepTile(zoom, tileX, tileY, names);
    return Integer.bitCount(names);
  }

  public int nameIn(int zoom, int tileX, int tileY, int index)
      throws IllegalArgumentException, NoSuchElementException {
    checkZoom(zoom);
    int names = isTile(zoom, tileX, tileY) ? askTile(zoom, tileX, tileY) : 0;
    if (index < 0 || index >= Integer.bitCount(names)) {
      throw new NoSuchElementException("there is no such name");
    }
    // Kept only now, since a call that throws changes nothing.
    keepTile(zoom, tileX, tileY, names);
    return nameOf(names, index);
  }

  public int drawn() {
    return drawn;
  }

  public int square(int feature) throws IndexOutOfBoundsException {
    return existing(feature).squareNumber();
  }

  public int indexed(int square, int rank) throws IllegalArgumentException, NoSuchElementException {
    if (!isWithin(square, 0, SQUARES - 1)) {
      throw new IllegalArgumentException("there is no such square");
    }
    int before = 0;
    for (int at = 0; at < order.size(); at++) {
      Feature feature = order.get(at);
      if (feature.squareNumber() == square) {
        if (before == rank) {
          return feature.number;
        }
        before++;
      }
    }
    throw new NoSuchElementException("there is no such feature");
  }

  public float namedShare(int zoom) throws IllegalArgumentException, ArithmeticException {
    checkZoom(zoom);
    int all = order.size();
    if (all == 0) {
      throw new ArithmeticException("there are no features");
    }
    int named = 0;
    for (int at = 0; at < order.size(); at++) {
      if (order.get(at).isNameSeen(zoom)) {
        named++;
      }
    }
    return (float) named / (float) all;
  }

  public double meanFrom() throws ArithmeticException {
    int all = order.size();
    if (all == 0) {
      throw new ArithmeticException("there are no features");
    }
    int sum = 0;
    for (int at = 0; at < order.size(); at++) {
      sum += order.get(at).nameFrom;
    }
    return (double) sum / (double) all;
  }

  public boolean isConsistent() {
    for (int zoom = 0; zoom < ZOOMS; zoom++) {
      for (int at = 0; at < order.size(); at++) {
        Feature feature = order.get(at);
        if (feature.isNameSeen(zoom) && (feature.seenFrom > zoom || !isNameApart(feature, zoom))) {
          return false;
        }
      }
      if (!areTilesFresh(zoom)) {
        return false;
      }
    }
    return true;
  }

  // ---- what the calls ask of their numbers

  private static boolean isWithin(int number, int least, int most) {
    return number >= least && number <= most;
  }

  private static boolean isPlace(int x, int y) {
    return isWithin(x, 0, LAST_PLACE) && isWithin(y, 0, LAST_PLACE);
  }

  private static boolean isNamed(int rank, int letters, int shorter) {
    return isWithin(rank, 0, 9) && isWithin(letters, 1, 20) && isWithin(shorter, 1, letters);
  }

  private static void checkZoom(int zoom) {
    if (!isWithin(zoom, 0, LAST_ZOOM)) {
      throw new IllegalArgumentException("there is no such zoom");
    }
  }

  private Feature existing(int number) {
    for (int at = 0; at < order.size(); at++) {
      Feature feature = order.get(at);
      if (feature.number == number) {
        return feature;
      }
    }
    throw new IndexOutOfBoundsException("there is no such feature");
  }

  // ---- the order of features

  private void enter(Feature feature) {
    given++;
    putIn(feature);
  }

  private void putIn(Feature feature) {
    int at = 0;
    while (at < order.size() && order.get(at).isStrongerThan(feature)) {
      at++;
    }
    order.add(at, feature);
  }

  private void takeOut(Feature feature) {
    for (int at = 0; at < order.size(); at++) {
      if (order.get(at).number == feature.number) {
        order.remove(at);
        return;
      }
    }
  }

  // ---- what is seen from which zoom on

  /** Works out anew all that hangs on places, order and turn. */
  private void survey() {
    for (int at = 0; at < order.size(); at++) {
      order.get(at).project(turn);
    }
    for (int at = 0; at < order.size(); at++) {
      Feature feature = order.get(at);
      feature.seenFrom = symbolFromOf(feature);
    }
    for (int at = 0; at < order.size(); at++) {
      openChoices(order.get(at));
    }
    settleFrom(0);
    dropTiles();
  }

  private int symbolFromOf(Feature feature) {
    int from = NEVER;
    for (int zoom = LAST_ZOOM; zoom >= 0 && !isSymbolHidden(feature, zoom); zoom--) {
      from = zoom;
    }
    return from;
  }

  private boolean isSymbolHidden(Feature feature, int zoom) {
    Box box = feature.symbolBox(zoom);
    for (int at = 0; at < order.size(); at++) {
      Feature other = order.get(at);
      if (other.number == feature.number) {
        // All that follow are weaker.
        return false;
      }
      if (other.seenFrom <= zoom && Box.overlap(box, other.symbolBox(zoom))) {
        return true;
      }
    }
    return false;
  }

  private void openChoices(Feature feature) {
    for (int choice = 0; choice < feature.choices(); choice++) {
      int from = NEVER;
      for (int zoom = LAST_ZOOM; zoom >= feature.seenFrom && isOpen(feature, choice, zoom); zoom--) {
        from = zoom;
      }
      feature.openChoice(choice, from);
    }
  }

  private boolean isOpen(Feature feature, int choice, int zoom) {
    if (!feature.isGood(choice, zoom)) {
      return false;
    }
    for (int at = 0; at < order.size(); at++) {
      Feature other = order.get(at);
      if (other.number != feature.number && other.seenFrom <= zoom
          && Box.overlap(feature.boxOf(choice, zoom), other.symbolBox(zoom))) {
        return false;
      }
    }
    return true;
  }

  /** Works out from which zooms on the names of the feature at a position and of all weaker ones are seen. */
  private void settleFrom(int first) {
    for (int at = Math.max(0, first); at < order.size(); at++) {
      Feature feature = order.get(at);
      feature.nameFrom = nameFromOf(feature);
    }
  }

  private int nameFromOf(Feature feature) {
    int open = feature.openForName();
    int from = NEVER;
    for (int zoom = LAST_ZOOM; zoom >= open && !isNameTaken(feature, zoom); zoom--) {
      from = zoom;
    }
    return from;
  }

  private boolean isNameTaken(Feature feature, int zoom) {
    Box box = feature.boxOf(feature.candidate, zoom);
    for (int at = 0; at < order.size(); at++) {
      Feature other = order.get(at);
      if (other.number == feature.number) {
        // All that follow are weaker.
        return false;
      }
      if (other.isNameSeen(zoom) && Box.overlap(box, other.boxOf(other.candidate, zoom))) {
        return true;
      }
    }
    return false;
  }

  private void saveFroms(int first) {
    for (int at = Math.max(0, first); at < order.size(); at++) {
      Feature feature = order.get(at);
      feature.savedFrom = feature.nameFrom;
    }
  }

  private void restoreFroms(int first) {
    for (int at = Math.max(0, first); at < order.size(); at++) {
      Feature feature = order.get(at);
      feature.nameFrom = feature.savedFrom;
    }
  }

  private int changedFroms() {
    int changed = 0;
    for (int at = 0; at < order.size(); at++) {
      Feature feature = order.get(at);
      if (feature.nameFrom != feature.savedFrom) {
        changed++;
      }
    }
    return changed;
  }

  // ---- placing and improving

  /** The cost of the feature at a position and of all weaker ones. */
  private long costFrom(int first) {
    long sum = 0;
    for (int at = Math.max(0, first); at < order.size(); at++) {
      sum += order.get(at).price();
    }
    return sum;
  }

  private int bestChoice(Feature feature) {
    int best = NONE;
    long least = priceWith(feature, NONE);
    for (int choice = feature.choices() - 1; choice >= 0; choice--) {
      long price = priceWith(feature, choice);
      // Counted down, so that of several the lowest one wins, and any wins over none.
      if (price <= least) {
        least = price;
        best = choice;
      }
    }
    return best;
  }

  private long priceWith(Feature feature, int choice) {
    feature.candidate = choice;
    feature.nameFrom = nameFromOf(feature);
    return feature.price();
  }

  /** Tries the candidates of the feature at a position, and none, and returns how many trials that took. */
  private int improveAt(Feature feature, int at, int most) {
    if (feature.isLocked) {
      return 0;
    }
    int made = 0;
    for (int step = 0; step <= feature.choices() && made < most; step++) {
      int choice = step < feature.choices() ? step : NONE;
      if (choice != feature.candidate) {
        tryChoice(feature, at, choice);
        made++;
      }
    }
    return made;
  }

  /** Stronger features don't hang on this one: so costs are compared from its position on. */
  private void tryChoice(Feature feature, int at, int choice) {
    int before = feature.candidate;
    long costBefore = costFrom(at);
    saveFroms(at);
    feature.candidate = choice;
    settleFrom(at);
    if (costFrom(at) >= costBefore) {
      feature.candidate = before;
      restoreFroms(at);
    }
  }

  /** The number of placements that leave locked features alone, counted until it is above the limit. */
  private int placements() {
    int number = 1;
    for (int at = 0; at < order.size() && number <= MOST_PLACEMENTS; at++) {
      Feature feature = order.get(at);
      if (!feature.isLocked) {
        number *= feature.choices() + 1;
      }
    }
    return number;
  }

  /**
   * The least cost of all placements that have the present candidates before a position, where these
   * cost what is spent, or the best one known if that is less. The depth is the position.
   */
  private long leastAt(int at, long spent, long best) {
    if (!isWithin(at, 0, order.size() - 1) || spent >= best) {
      return Math.min(spent, best);
    }
    Feature feature = order.get(at);
    int candidate = feature.candidate;
    int nameFrom = feature.nameFrom;
    int first = feature.isLocked ? candidate : NONE;
    int last = feature.isLocked ? candidate : feature.choices() - 1;
    long least = best;
    for (int choice = first; choice <= last; choice++) {
      long price = priceWith(feature, choice);
      least = leastAt(at + 1, spent + price, least);
    }
    feature.candidate = candidate;
    feature.nameFrom = nameFrom;
    return least;
  }

  // ---- tiles

  private static int tilesAcross(int zoom) {
    return ((SCREEN << zoom) - 1) / TILE + 1;
  }

  private static boolean isTile(int zoom, int tileX, int tileY) {
    int last = tilesAcross(zoom) - 1;
    return isWithin(tileX, 0, last) && isWithin(tileY, 0, last);
  }

  private static int tileNumber(int zoom, int tileX, int tileY) {
    int number = 0;
    for (int smaller = 0; smaller < zoom; smaller++) {
      number += tilesAcross(smaller) * tilesAcross(smaller);
    }
    return number + tileY * tilesAcross(zoom) + tileX;
  }

  private int askTile(int zoom, int tileX, int tileY) {
    int tile = tileNumber(zoom, tileX, tileY);
    if (isWithin(tile, 0, ALL_TILES - 1) && tiles[tile] != NOT_KEPT) {
      return tiles[tile];
    }
    return drawTile(zoom, tileX, tileY);
  }

  private int drawTile(int zoom, int tileX, int tileY) {
    int names = 0;
    window.put(tileX * TILE, tileY * TILE, TILE, TILE);
    for (int at = 0; at < order.size(); at++) {
      Feature feature = order.get(at);
      if (feature.isNameSeen(zoom) && Box.overlap(window, feature.boxOf(feature.candidate, zoom))) {
        names |= 1 << at;
      }
    }
    return names;
  }

  private void keepTile(int zoom, int tileX, int tileY, int names) {
    int tile = tileNumber(zoom, tileX, tileY);
    if (isWithin(tile, 0, ALL_TILES - 1) && tiles[tile] == NOT_KEPT) {
      tiles[tile] = names;
      drawn++;
    }
  }

  private void dropTiles() {
    Arrays.fill(tiles, NOT_KEPT);
  }

  private int nameOf(int names, int index) {
    int before = 0;
    for (int at = 0; at < order.size(); at++) {
      if ((names & 1 << at) != 0) {
        if (before == index) {
          return order.get(at).number;
        }
        before++;
      }
    }
    return NONE;
  }

  // ---- the invariants

  private boolean isNameApart(Feature feature, int zoom) {
    Box box = feature.boxOf(feature.candidate, zoom);
    for (int at = 0; at < order.size(); at++) {
      Feature other = order.get(at);
      if (other.number == feature.number) {
        continue;
      }
      if (other.isNameSeen(zoom) && Box.overlap(box, other.boxOf(other.candidate, zoom))) {
        return false;
      }
      if (other.seenFrom <= zoom && Box.overlap(box, other.symbolBox(zoom))) {
        return false;
      }
    }
    return true;
  }

  private boolean areTilesFresh(int zoom) {
    int across = tilesAcross(zoom);
    int tile = tileNumber(zoom, 0, 0);
    for (int tileY = 0; tileY < across; tileY++) {
      for (int tileX = 0; tileX < across; tileX++) {
        if (isWithin(tile, 0, ALL_TILES - 1) && tiles[tile] != NOT_KEPT
            && tiles[tile] != drawTile(zoom, tileX, tileY)) {
          return false;
        }
        tile++;
      }
    }
    return true;
  }

  // ---- boxes and the kinds of features

  /** A box on a screen; its right and its lower end are outside of it. */
  private static final class Box {
    int left;
    int top;
    int right;
    int bottom;

    void put(int left, int top, int width, int height) {
      this.left = left;
      this.top = top;
      this.right = left + width;
      this.bottom = top + height;
    }

    boolean has(int x, int y) {
      return x >= left && x < right && y >= top && y < bottom;
    }

    /** Null stands for no box, which overlaps nothing. */
    static boolean overlap(Box one, Box other) {
      return one != null && other != null
          && one.left < other.right && other.left < one.right
          && one.top < other.bottom && other.top < one.bottom;
    }
  }

  private abstract static class Feature {
    final int number;
    final int rank;
    final int letters;
    final int shorter;
    /** The number of candidates for one form. */
    final int half;
    final int[] xs = new int[MOST_PLACES];
    final int[] ys = new int[MOST_PLACES];
    /** The places on the screens, each place by rising zooms. */
    final int[] screenXs = new int[MOST_PLACES * ZOOMS];
    final int[] screenYs = new int[MOST_PLACES * ZOOMS];
    /** The boxes of the names, each candidate by rising zooms. */
    final Box[] boxes = new Box[MOST_CHOICES * ZOOMS];
    /** For each candidate the zoom from which on nothing but other names can be in its way. */
    final int[] openFrom = new int[MOST_CHOICES];
    int places = 0;
    int wish = 0;
    boolean isLocked = false;
    int candidate = NONE;
    int seenFrom = NEVER;
    int nameFrom = NEVER;
    int savedFrom = NEVER;

    Feature(int number, int rank, int letters, int shorter, int half) {
      this.number = number;
      this.rank = rank;
      this.letters = letters;
      this.shorter = shorter;
      this.half = half;
      for (int i = 0; i < 2 * half * ZOOMS && i < boxes.length; i++) {
        boxes[i] = new Box();
      }
    }

    /** The left end of a candidate, numbered within its form. */
    abstract int leftFor(int spot, int width, int zoom);

    /** The upper end of a candidate, numbered within its form. */
    abstract int topFor(int spot, int height, int zoom);

    /** What the kind of the feature asks of a good candidate, numbered within its form. */
    abstract boolean suits(int spot, Box box, int zoom);

    boolean isInTwoLines(int spot) {
      return false;
    }

    /** Only points have something to do here. */
    void putSymbol() {
    }

    /** The box of the symbol, or null without one. */
    Box symbolBox(int zoom) {
      return null;
    }

    int choices() {
      return 2 * half;
    }

    void addPlace(int x, int y) {
      if (places >= 0 && places < MOST_PLACES) {
        xs[places] = x;
        ys[places] = y;
        places++;
      }
    }

    boolean canMove(int dx, int dy) {
      for (int i = 0; i < places && i < MOST_PLACES; i++) {
        // As long numbers, since any dx and dy may be asked for.
        long x = (long) xs[i] + dx;
        long y = (long) ys[i] + dy;
        if (x < 0 || x > LAST_PLACE || y < 0 || y > LAST_PLACE) {
          return false;
        }
      }
      return true;
    }

    void move(int dx, int dy) {
      for (int i = 0; i < places && i < MOST_PLACES; i++) {
        xs[i] += dx;
        ys[i] += dy;
      }
    }

    int squareNumber() {
      return 8 * (ys[0] / SQUARE_SIDE) + xs[0] / SQUARE_SIDE;
    }

    boolean isStrongerThan(Feature other) {
      int sum = rank + wish;
      int otherSum = other.rank + other.wish;
      return sum > otherSum || sum == otherSum && number < other.number;
    }

    /** Works out where the places, the symbol and the names are on all screens. */
    void project(int turn) {
      for (int i = 0; i < places && i < MOST_PLACES; i++) {
        int x = turnedX(xs[i], ys[i], turn);
        int y = turnedY(xs[i], ys[i], turn);
        for (int zoom = 0; zoom < ZOOMS; zoom++) {
          screenXs[i * ZOOMS + zoom] = (x << zoom) / 8;
          screenYs[i * ZOOMS + zoom] = (y << zoom) / 8;
        }
      }
      putSymbol();
      for (int choice = 0; choice < choices(); choice++) {
        putNames(choice);
      }
    }

    static int turnedX(int x, int y, int turn) {
      return turn == 0 ? x : turn == 1 ? LAST_PLACE - y : turn == 2 ? LAST_PLACE - x : y;
    }

    static int turnedY(int x, int y, int turn) {
      return turn == 0 ? y : turn == 1 ? x : turn == 2 ? LAST_PLACE - y : LAST_PLACE - x;
    }

    void putNames(int choice) {
      int spot = spotOf(choice);
      int width = widthFor(choice);
      int height = isInTwoLines(spot) ? 2 * LINE_HEIGHT : LINE_HEIGHT;
      for (int zoom = 0; zoom < ZOOMS; zoom++) {
        Box box = boxOf(choice, zoom);
        if (box != null) {
          box.put(leftFor(spot, width, zoom), topFor(spot, height, zoom), width, height);
        }
      }
    }

    int screenX(int place, int zoom) {
      int index = place * ZOOMS + zoom;
      return index >= 0 && index < screenXs.length ? screenXs[index] : 0;
    }

    int screenY(int place, int zoom) {
      int index = place * ZOOMS + zoom;
      return index >= 0 && index < screenYs.length ? screenYs[index] : 0;
    }

    /** The number of a candidate within its form. */
    int spotOf(int choice) {
      return choice < half ? choice : choice - half;
    }

    int widthFor(int choice) {
      int all = choice < half ? letters : shorter;
      return LETTER_WIDTH * (isInTwoLines(spotOf(choice)) ? (all + 1) / 2 : all);
    }

    /** The box of a candidate, or null if there is no such candidate. */
    Box boxOf(int choice, int zoom) {
      int index = choice * ZOOMS + zoom;
      return choice >= 0 && zoom >= 0 && index < boxes.length ? boxes[index] : null;
    }

    boolean isGood(int choice, int zoom) {
      Box box = boxOf(choice, zoom);
      int size = SCREEN << zoom;
      return box != null && box.left >= 0 && box.right <= size && box.top >= 0 && box.bottom <= size
          && suits(spotOf(choice), box, zoom);
    }

    void openChoice(int choice, int from) {
      if (choice >= 0 && choice < openFrom.length) {
        openFrom[choice] = from;
      }
    }

    int openForName() {
      return candidate >= 0 && candidate < openFrom.length ? openFrom[candidate] : NEVER;
    }

    boolean isNameSeen(int zoom) {
      return nameFrom <= zoom;
    }

    long price() {
      return (long) (rank + 1) * nameFrom * ZOOM_COST + taste();
    }

    int taste() {
      if (candidate == NONE) {
        return NO_NAME_TASTE;
      }
      return spotOf(candidate) + (candidate < half ? 0 : SHORT_TASTE);
    }
  }

  private static final class Point extends Feature {
    final int reach;
    final Box[] symbols = new Box[ZOOMS];

    Point(int number, int rank, int letters, int shorter, int reach) {
      super(number, rank, letters, shorter, 8);
      this.reach = reach;
      for (int zoom = 0; zoom < ZOOMS; zoom++) {
        symbols[zoom] = new Box();
      }
    }

    void putSymbol() {
      int side = 2 * reach + 1;
      for (int zoom = 0; zoom < ZOOMS; zoom++) {
        Box box = symbolBox(zoom);
        if (box != null) {
          box.put(screenX(0, zoom) - reach, screenY(0, zoom) - reach, side, side);
        }
      }
    }

    Box symbolBox(int zoom) {
      return zoom >= 0 && zoom < ZOOMS ? symbols[zoom] : null;
    }

    int leftFor(int spot, int width, int zoom) {
      int x = screenX(0, zoom);
      switch (spot) {
        case 0:
        case 4:
        case 5:
          return x + reach + 1;
        case 1:
        case 2:
          return x - width / 2;
        default:
          return x - reach - width;
      }
    }

    int topFor(int spot, int height, int zoom) {
      int y = screenY(0, zoom);
      switch (spot) {
        case 0:
        case 3:
          return y - 5;
        case 1:
        case 4:
        case 6:
          return y - reach - 1 - height;
        default:
          return y + reach + 1;
      }
    }

    boolean suits(int spot, Box box, int zoom) {
      return true;
    }
  }

  private static final class Line extends Feature {
    Line(int number, int rank, int letters, int shorter) {
      super(number, rank, letters, shorter, 5);
    }

    int leftFor(int spot, int width, int zoom) {
      return (screenX(spot, zoom) + screenX(spot + 1, zoom)) / 2 - width / 2;
    }

    int topFor(int spot, int height, int zoom) {
      return (screenY(spot, zoom) + screenY(spot + 1, zoom)) / 2 - LINE_RISE;
    }

    boolean suits(int spot, Box box, int zoom) {
      if (spot + 1 >= places) {
        return false;
      }
      int dx = screenX(spot + 1, zoom) - screenX(spot, zoom);
      int dy = screenY(spot + 1, zoom) - screenY(spot, zoom);
      int width = box.right - box.left;
      return dx * dx + dy * dy >= width * width;
    }
  }

  private static final class Area extends Feature {
    Area(int number, int rank, int letters, int shorter) {
      super(number, rank, letters, shorter, 2);
    }

    boolean isInTwoLines(int spot) {
      return spot == 1;
    }

    int leftFor(int spot, int width, int zoom) {
      return (screenX(0, zoom) + screenX(1, zoom)) / 2 - width / 2;
    }

    int topFor(int spot, int height, int zoom) {
      return (screenY(0, zoom) + screenY(1, zoom)) / 2 - height / 2;
    }

    boolean suits(int spot, Box box, int zoom) {
      return isInside(box.left, box.right, screenX(0, zoom), screenX(1, zoom))
          && isInside(box.top, box.bottom, screenY(0, zoom), screenY(1, zoom));
    }

    /** From one end to the other, which is outside, all lies between two places, both included. */
    private static boolean isInside(int end, int otherEnd, int place, int otherPlace) {
      return end >= Math.min(place, otherPlace) && otherEnd - 1 <= Math.max(place, otherPlace);
    }
  }
}
