/** Sentences of "What stands" about places, kinds, arches, loads, strength and falling, and of promises 15 to 25. */
final class EdgeOfCells {
  private EdgeOfCells() {
  }

  static void run() {
    sites();
    places();
    noCell();
    kinds();
    kindsRefused();
    stuff();
    standing();
    notStanding();
    archSides();
    archEnds();
    putOrder();
    withoutEither();
    loads();
    archLoads();
    strength();
    strengthAtLeast();
    ages();
    fallsAboveStrength();
    fallsAtOnce();
    looksAnew();
    lastFell();
  }

  private static void sites() {
    Edge.sentence("At most 3 sites are numbered from 0");
    Snowpalace city = new Snowpalace();
    for (int site = 0; site < 3; site++) {
      Edge.due("number", city.site(), site);
      Edge.due("without cells", city.count(site), 0);
      Edge.due("none fell", city.fell(site), 0);
    }
    Edge.sentence("Throws `IllegalStateException` if there are 3");
    Edge.refused("site", Check.STATE, Edge::corners, Snowpalace::site);
    Edge.refused("site", Check.STATE, () -> Edge.after(Edge::corners, 480), Snowpalace::site);
    Edge.allowed("the third site", Edge::lively, Snowpalace::site);
    Edge.sentence("Throws `IndexOutOfBoundsException` if there is no such site");
    Edge.sites("fell", Edge::corners, Edge::oneSite, (each, site) -> each.fell(site));
    Edge.sites("lastFell", Edge::corners, Edge::oneSite, (each, site) -> each.lastFell(site));
  }

  private static void places() {
    Edge.sentence("each 8 wide, x from 0, and 6 high, y from 0.");
    Edge.places("put", Edge::nearlyCorners, Check::clearStock, (city, site, x, y) -> city.put(site, x, y, 'c'));
    Edge.places("at", Edge::corners, Edge::oneSite, (city, site, x, y) -> city.at(site, x, y));
    Edge.places("mass", Edge::corners, Edge::oneSite, (city, site, x, y) -> city.mass(site, x, y));
    Edge.places("load", Edge::corners, Edge::oneSite, (city, site, x, y) -> city.load(site, x, y));
    Edge.places("strength", Edge::corners, Edge::oneSite, (city, site, x, y) -> city.strength(site, x, y));
    Edge.places("creep", Edge::corners, Edge::oneSite, (city, site, x, y) -> city.creep(site, x, y));
    Edge.places("age", Edge::corners, Edge::oneSite, (city, site, x, y) -> city.age(site, x, y));
    Edge.places("isArch", Edge::corners, Edge::oneSite, (city, site, x, y) -> city.isArch(site, x, y));
    Snowpalace full = Check.mixedStock();
    for (int place = 0; place < 48; place++) {
      Edge.due("a cell at each place", full.put(0, place % 8, place / 8, 's'), place + 1);
    }
    Edge.refused("put", Check.UNSUPPORTED, EdgeOfCells::full, city -> city.put(0, 7, 5, 's'));
    Edge.refused("put", Check.INDEX, EdgeOfCells::full, city -> city.put(0, 0, 6, 's'));
  }

  /** A site with a cell at each place. */
  private static Snowpalace full() {
    Snowpalace city = Edge.snowy();
    for (int place = 0; place < 48; place++) {
      city.put(0, place % 8, place / 8, 's');
    }
    return city;
  }

  private static void noCell() {
    Edge.sentence("Throws `NoSuchElementException` if no cell is there");
    emptyPlace("mass", (city, site, x, y) -> city.mass(site, x, y));
    emptyPlace("load", (city, site, x, y) -> city.load(site, x, y));
    emptyPlace("strength", (city, site, x, y) -> city.strength(site, x, y));
    emptyPlace("creep", (city, site, x, y) -> city.creep(site, x, y));
    emptyPlace("age", (city, site, x, y) -> city.age(site, x, y));
    emptyPlace("isArch", (city, site, x, y) -> city.isArch(site, x, y));
  }

  /** A place where none ever was, one above a cell, and one where a cell fell; then a wrong place, which has no cell either. */
  static void emptyPlace(String method, Edge.AskedPlace call) {
    Edge.refused(method, Check.NO_ELEMENT, Edge::corners, city -> call.of(city, 1, 0, 0));
    Edge.refused(method, Check.NO_ELEMENT, Edge::corners, city -> call.of(city, 0, 7, 1));
    Edge.refused(method, Check.NO_ELEMENT, Edge::corners, city -> call.of(city, 2, 4, 1));
    Edge.first(method, Check.INDEX, Check.NO_ELEMENT, Edge::corners, city -> call.of(city, 0, 8, 0));
  }

  private static void kinds() {
    Edge.sentence("A cell is of a kind: 's' snow, made of 4 snow, with the mass 300, the strength 2500");
    Snowpalace city = Check.mixedStock();
    Edge.due("s", city.put(0, 0, 0, 's'), 1);
    Edge.due("snow", city.snow(), 496);
    Edge.due("mass of s", city.mass(0, 0, 0), 300);
    Edge.due("strength of s", city.strength(0, 0, 0), 2500);
    Edge.sentence("'i' of a block, 450, 6000, a half");
    Edge.due("i", city.put(0, 1, 0, 'i'), 2);
    Edge.due("blocks", city.yard(false), 79);
    Edge.due("mass of i", city.mass(0, 1, 0), 450);
    Edge.due("strength of i", city.strength(0, 1, 0), 6000);
    Edge.sentence("'c' of a clear block, 500, 5000, three fourths.");
    Edge.due("c", city.put(0, 2, 0, 'c'), 3);
    Edge.due("clear blocks", city.yard(true), 79);
    Edge.due("mass of c", city.mass(0, 2, 0), 500);
    Edge.due("strength of c", city.strength(0, 2, 0), 5000);
    Edge.sentence("Returns s, i, c, or . for none.");
    Edge.due("kinds", "" + city.at(0, 0, 0) + city.at(0, 1, 0) + city.at(0, 2, 0) + city.at(0, 3, 0), "sic.");
  }

  private static void kindsRefused() {
    Edge.sentence("Throws `IllegalArgumentException` if there is no such kind");
    for (char kind : new char[] {'.', 'S', 'I', 'C', 'r', 't', 'h', 'j', 'b', 'd', ' ', 0, 255, 's' + 256, 65535}) {
      Edge.refused("put", Check.ARGUMENT, Edge::lively, city -> city.put(0, 5, 0, kind));
    }
    Snowpalace city = new Snowpalace();
    city.site();
    for (char kind = 0; kind < 256; kind++) {
      final char each = kind;
      Class<?> want = "sic".indexOf(kind) >= 0 ? Check.STATE : Check.ARGUMENT;
      Edge.due("put of a kind " + (int) kind, Check.answer(() -> city.put(0, 5, 0, each)), want.getName());
    }
  }

  private static Snowpalace snowLeft(int lorries, int puts) {
    Snowpalace city = new Snowpalace();
    city.site();
    city.lorries(lorries);
    for (int i = 0; i < puts; i++) {
      city.put(0, i, 0, 's');
    }
    return city;
  }

  /** The yard has one block, which is clear at -400, and not at -99. */
  private static Snowpalace oneBlock(int warmth) {
    Snowpalace city = Edge.after(() -> Edge.always(warmth), 96);
    city.site();
    city.cut(0, 1);
    return city;
  }

  private static Snowpalace lastBlockPut(int warmth, char kind) {
    Snowpalace city = oneBlock(warmth);
    city.put(0, 0, 0, kind);
    return city;
  }

  private static void stuff() {
    Edge.sentence("Throws `IllegalStateException` if there is no such block, or not as much snow");
    Edge.refused("put", Check.STATE, () -> snowLeft(1, 1), city -> city.put(0, 7, 0, 's'));
    Edge.refused("put", Check.STATE, () -> snowLeft(2, 2), city -> city.put(0, 7, 0, 's'));
    Edge.due("3 left", snowLeft(3, 3).snow(), 3);
    Edge.refused("put", Check.STATE, () -> snowLeft(3, 3), city -> city.put(0, 7, 0, 's'));
    Snowpalace four = snowLeft(4, 4);
    Edge.due("4 left", four.snow(), 4);
    Edge.due("4 are enough", four.put(0, 7, 0, 's'), 5);
    Edge.due("none left", four.snow(), 0);
    Edge.refused("put", Check.STATE, () -> snowLeft(4, 5), city -> city.put(0, 6, 0, 's'));
    Edge.due("the last clear block", lastBlockPut(-400, 'c').count(0), 1);
    Edge.refused("put", Check.STATE, () -> lastBlockPut(-400, 'c'), city -> city.put(0, 1, 0, 'c'));
    Edge.refused("put", Check.STATE, () -> oneBlock(-400), city -> city.put(0, 1, 0, 'i'));
    Edge.due("the last other block", lastBlockPut(-99, 'i').count(0), 1);
    Edge.refused("put", Check.STATE, () -> lastBlockPut(-99, 'i'), city -> city.put(0, 1, 0, 'i'));
    Edge.refused("put", Check.STATE, () -> oneBlock(-99), city -> city.put(0, 1, 0, 'c'));
    Edge.due("snow makes no block", Check.answer(() -> Edge.snowy().put(0, 0, 0, 'c')), Check.STATE.getName());
  }

  private static void standing() {
    Edge.sentence("A cell stands on the ground, y 0, or on the cell below");
    for (int x = 0; x < 8; x++) {
      Snowpalace city = Edge.snowy();
      Edge.due("on the ground", city.put(0, x, 0, 's'), 1);
      for (int y = 1; y < 6; y++) {
        Edge.due("on the cell below", city.put(0, x, y, 's'), y + 1);
      }
      Edge.due("none fell", city.fell(0), 0);
    }
  }

  private static Snowpalace two(int left, int leftHigh, int right, int rightHigh) {
    Snowpalace city = Edge.snowy();
    Check.column(city, left, leftHigh, 's');
    Check.column(city, right, rightHigh, 's');
    return city;
  }

  private static void notStanding() {
    Edge.sentence("Throws `UnsupportedOperationException` if a cell is there, or it would not stand, by what is there");
    Edge.refused("put", Check.UNSUPPORTED, Edge::snowy, city -> city.put(0, 0, 1, 's'));
    Edge.refused("put", Check.UNSUPPORTED, Edge::snowy, city -> city.put(0, 7, 5, 's'));
    Edge.refused("put", Check.UNSUPPORTED, () -> two(3, 1, 5, 1), city -> city.put(0, 3, 2, 's'));
    Edge.refused("put", Check.UNSUPPORTED, () -> two(3, 1, 5, 1), city -> city.put(0, 3, 0, 's'));
    Edge.refused("put", Check.UNSUPPORTED, () -> two(3, 2, 5, 2), city -> city.put(0, 3, 1, 's'));
    Edge.refused("put", Check.UNSUPPORTED, Edge::lively, city -> city.put(0, 2, 1, 'c'));
    Edge.refused("put", Check.UNSUPPORTED, Edge::lively, city -> city.put(0, 7, 1, 's'));
  }

  private static void archSides() {
    Edge.sentence("without that it is an arch, between two cells beside it, at the same height, that stand so.");
    Snowpalace city = two(3, 2, 5, 2);
    Edge.due("between two", city.put(0, 4, 1, 's'), 5);
    Edge.due("an arch", city.isArch(0, 4, 1), true);
    Edge.due("its sides are none", city.isArch(0, 3, 1) || city.isArch(0, 5, 1), false);
    Edge.refused("put", Check.UNSUPPORTED, () -> two(3, 2, 5, 1), each -> each.put(0, 4, 1, 's'));
    Edge.refused("put", Check.UNSUPPORTED, () -> two(3, 1, 5, 2), each -> each.put(0, 4, 1, 's'));
    Edge.refused("put", Check.UNSUPPORTED, () -> two(3, 2, 5, 2), each -> each.put(0, 4, 2, 's'));
    Edge.refused("put", Check.UNSUPPORTED, () -> two(3, 3, 5, 1), each -> each.put(0, 4, 1, 's'));
    Edge.refused("put", Check.UNSUPPORTED, () -> two(3, 2, 6, 2), each -> each.put(0, 4, 1, 's'));
    Edge.refused("put", Check.UNSUPPORTED, () -> two(3, 2, 6, 2), each -> each.put(0, 5, 1, 's'));
    Snowpalace low = two(3, 1, 5, 1);
    low.put(0, 4, 0, 's');
    Edge.due("on the ground it is none", low.isArch(0, 4, 0), false);
    Snowpalace held = two(3, 2, 5, 2);
    held.put(0, 4, 0, 's');
    held.put(0, 4, 1, 's');
    Edge.due("on a cell it is none", held.isArch(0, 4, 1), false);
    Snowpalace top = two(3, 6, 5, 6);
    Edge.due("in the highest row", top.put(0, 4, 5, 's'), 13);
    Edge.due("on an arch one stands", archWithOneOn().isArch(0, 4, 2), false);
  }

  private static Snowpalace archWithOneOn() {
    Snowpalace city = two(3, 2, 5, 2);
    city.put(0, 4, 1, 's');
    city.put(0, 4, 2, 's');
    return city;
  }

  private static void archEnds() {
    Edge.sentence("between two cells beside it, at the same height");
    Snowpalace left = two(0, 2, 2, 2);
    Edge.due("x 1", left.put(0, 1, 1, 's'), 5);
    Snowpalace right = two(5, 2, 7, 2);
    Edge.due("x 6", right.put(0, 6, 1, 's'), 5);
    Edge.refused("put", Check.UNSUPPORTED, () -> two(1, 3, 7, 2), city -> city.put(0, 0, 2, 's'));
    Edge.refused("put", Check.UNSUPPORTED, () -> two(1, 2, 7, 2), city -> city.put(0, 0, 1, 's'));
    Edge.refused("put", Check.UNSUPPORTED, () -> two(0, 3, 6, 2), city -> city.put(0, 7, 1, 's'));
    Edge.refused("put", Check.UNSUPPORTED, () -> two(0, 2, 6, 2), city -> city.put(0, 7, 1, 's'));
  }

  private static void putOrder() {
    Edge.sentence("A method that throws an exception changes nothing.");
    Edge.refused("put", Check.UNSUPPORTED, Edge::lively, city -> city.put(0, 1, 0, 's'));
    Edge.sentence("If several exceptions apply, the one that is listed first is thrown.");
    Edge.first("put", Check.INDEX, Check.ARGUMENT, Edge::lively, city -> city.put(0, 8, 0, 'x'));
    Edge.refused("put", Check.INDEX, Edge::lively, city -> city.put(3, 0, 0, '.'));
    Edge.first("put", Check.INDEX, Check.UNSUPPORTED, Edge::lively, city -> city.put(0, 8, 3, 's'));
    Edge.first("put", Check.INDEX, Check.STATE, Check::clearStock, city -> city.put(0, 0, -1, 'i'));
    Edge.first("put", Check.ARGUMENT, Check.UNSUPPORTED, Edge::lively, city -> city.put(0, 1, 0, 'x'));
    Edge.refused("put", Check.ARGUMENT, Edge::lively, city -> city.put(0, 5, 4, 'x'));
    Edge.first("put", Check.ARGUMENT, Check.STATE, () -> snowLeft(1, 1), city -> city.put(0, 5, 0, 'x'));
    Edge.first("put", Check.UNSUPPORTED, Check.STATE, () -> snowLeft(1, 1), city -> city.put(0, 0, 0, 's'));
    Edge.refused("put", Check.UNSUPPORTED, () -> snowLeft(1, 1), city -> city.put(0, 5, 1, 'i'));
    Edge.refused("put", Check.UNSUPPORTED, () -> snowLeft(1, 1), city -> city.put(0, 0, 0, 'c'));
  }

  private static void withoutEither() {
    Edge.sentence("A cell without either falls.");
    Snowpalace city = two(3, 6, 0, 1);
    Edge.due("five above", city.carve(0, 3, 0, 0), 5);
    Edge.due("one is left", city.count(0), 1);
    Snowpalace left = two(3, 2, 5, 2);
    left.put(0, 4, 1, 's');
    Edge.due("the left side and the arch", left.carve(0, 3, 0, 0), 2);
    Snowpalace right = two(3, 2, 5, 2);
    right.put(0, 4, 1, 's');
    Edge.due("the arch alone", right.carve(0, 5, 1, 0), 1);
    Snowpalace arch = two(3, 2, 5, 2);
    arch.put(0, 4, 1, 's');
    Edge.due("none with the arch", arch.carve(0, 4, 1, 0), 0);
    Snowpalace kept = two(3, 2, 5, 2);
    Check.column(kept, 4, 2, 's');
    Edge.due("none as an arch is left", kept.carve(0, 4, 0, 0), 0);
    Edge.due("an arch is left", kept.isArch(0, 4, 1), true);
    Snowpalace sideOfOne = two(3, 2, 5, 2);
    Check.column(sideOfOne, 4, 2, 's');
    Check.column(sideOfOne, 6, 2, 's');
    sideOfOne.carve(0, 4, 0, 0);
    Edge.due("a side that were an arch itself, and the arch", sideOfOne.carve(0, 5, 0, 0), 2);
  }

  private static void loads() {
    Edge.sentence("The load of a cell is its mass, and what comes to it: all of the load of the cell above, if that is there");
    Snowpalace city = two(0, 6, 7, 1);
    for (int y = 0; y < 6; y++) {
      Edge.due("load at " + y, city.load(0, 0, y), 300 * (6 - y));
    }
    Edge.due("none above", city.load(0, 7, 0), 300);
    Edge.due("the highest", city.load(0, 0, 5), 300);
    city.carve(0, 0, 5, 199);
    Edge.due("carved", city.load(0, 0, 0), 1601);
  }

  private static void archLoads() {
    Edge.sentence("and of an arch beside it, half of the arch's load, cut, to the left one, and the rest to the right one");
    Snowpalace odd = two(0, 2, 2, 2);
    odd.put(0, 1, 1, 's');
    Edge.due("even, left", odd.load(0, 0, 1), 450);
    Edge.due("even, right", odd.load(0, 2, 1), 450);
    odd.carve(0, 1, 1, 1);
    Edge.due("odd, left", odd.load(0, 0, 1), 300 + 149);
    Edge.due("odd, right", odd.load(0, 2, 1), 300 + 150);
    odd.carve(0, 1, 1, 198);
    Edge.due("the least arch, left", odd.load(0, 0, 1), 300 + 50);
    Edge.due("the least arch, right", odd.load(0, 2, 1), 300 + 51);
    Snowpalace end = two(5, 6, 7, 6);
    end.put(0, 6, 5, 's');
    Edge.due("at the right end", end.load(0, 7, 5), 450);
    Edge.due("down to the ground", end.load(0, 7, 0), 1950);
    Edge.sentence("an arch has the load of what is above it, too.");
    Snowpalace high = two(3, 2, 5, 2);
    for (int y = 1; y < 6; y++) {
      high.put(0, 4, y, 's');
    }
    Edge.due("five high", high.load(0, 4, 1), 1500);
    Edge.due("half of five", high.load(0, 5, 1), 1050);
    Snowpalace both = two(1, 2, 3, 2);
    Check.column(both, 5, 2, 's');
    both.put(0, 2, 1, 's');
    both.put(0, 4, 1, 's');
    both.carve(0, 2, 1, 1);
    both.carve(0, 4, 1, 1);
    Edge.due("of an arch at either side", both.load(0, 3, 1), 300 + 150 + 149);
  }

  private static Snowpalace atHour(int warmth, int hours) {
    Snowpalace city = Edge.snowy();
    city.weather(hours / 24, warmth, warmth, 0, 100);
    city.cover(0, true);
    city.put(0, 0, 0, 's');
    return Edge.after(() -> city, hours);
  }

  private static void strength() {
    Edge.sentence("and in warmth above -50 less 10 for each tenth above that");
    int[][] cases = {{-400, 2740}, {-51, 2740}, {-50, 2740}, {-49, 2730}, {0, 2240}, {1, 2230}, {194, 300}};
    for (int[] c : cases) {
      Edge.due("snow of 24 hours at " + c[0], atHour(c[0], 24).strength(0, 0, 0), c[1]);
    }
    Edge.sentence("500 less with a lamp");
    Snowpalace lit = Check.mixedStock();
    lit.put(0, 0, 0, 'c');
    lit.put(0, 1, 0, 'i');
    lit.lamp(0, 0, 0, true);
    lit.lamp(0, 1, 0, true);
    Edge.due("c", lit.strength(0, 0, 0), 4500);
    Edge.due("i", lit.strength(0, 1, 0), 5500);
    lit.lamp(0, 0, 0, true);
    Edge.due("no less with a lamp twice", lit.strength(0, 0, 0), 4500);
    lit.lamp(0, 0, 0, false);
    Edge.due("without it again", lit.strength(0, 0, 0), 5000);
  }

  private static void strengthAtLeast() {
    Edge.sentence("0 at least.");
    Snowpalace city = Edge.snowy();
    city.put(0, 0, 0, 's');
    int[][] cases = {{198, 20}, {199, 10}, {200, 0}};
    for (int[] c : cases) {
      city.weather(0, c[0], c[0], 0, 100);
      Edge.due("new snow at " + c[0], city.strength(0, 0, 0), c[1]);
    }
    city.weather(0, -100, -100, 0, 100);
    Edge.due("and in the cold", city.strength(0, 0, 0), 2500);
    Snowpalace lit = Check.mixedStock();
    lit.put(0, 0, 0, 'c');
    lit.lamp(0, 0, 0, true);
    lit.weather(6, 200, 200, 0, 100);
    Edge.due("c with a lamp at 200", lit.strength(0, 0, 0), 2000);
  }

  private static void ages() {
    Edge.sentence("The strength is that of its kind, 10 more for each hour of its age, 48 of them at most");
    Snowpalace kinds = Check.mixedStock();
    kinds.put(0, 0, 0, 's');
    kinds.put(0, 1, 0, 'i');
    kinds.put(0, 2, 0, 'c');
    int[] ofKinds = {2500, 6000, 5000};
    for (int x = 0; x < 3; x++) {
      Edge.due("new", kinds.strength(0, x, 0), ofKinds[x]);
    }
    kinds.go(30);
    for (int x = 0; x < 3; x++) {
      Edge.due("30 hours later", kinds.strength(0, x, 0), ofKinds[x] + 300);
    }
    int[][] cases = {{0, 2500}, {1, 2510}, {47, 2970}, {48, 2980}, {49, 2980}, {480, 2980}, {504, 2980}};
    for (int[] c : cases) {
      Snowpalace city = Edge.after(() -> {
        Snowpalace made = Edge.snowy();
        made.put(0, 0, 0, 's');
        return made;
      }, c[0]);
      Edge.due("strength at the age " + c[0], city.strength(0, 0, 0), c[1]);
      Edge.due("age", city.age(0, 0, 0), c[0]);
    }
  }

  /** A column on snow of 2600 in all, less what is carved. */
  private static Snowpalace loaded(int carved) {
    Snowpalace city = Check.clearStock();
    city.put(0, 0, 0, 's');
    for (int y = 1; y < 5; y++) {
      city.put(0, 0, y, 'c');
    }
    city.carve(0, 0, 4, carved);
    return city;
  }

  private static void fallsAboveStrength() {
    Edge.sentence("A cell whose load is above its strength falls.");
    Snowpalace just = loaded(100);
    Edge.due("2500 on 2500", just.put(0, 0, 5, 's'), 6);
    Edge.due("its load", just.load(0, 0, 0), 2500);
    Edge.due("none fell", just.fell(0), 0);
    Snowpalace above = loaded(99);
    Edge.due("2501 on 2500", above.put(0, 0, 5, 's'), 0);
    Edge.due("all fell", above.fell(0), 6);
    Snowpalace next = loaded(99);
    next.go(1);
    Edge.due("2501 on 2510", next.put(0, 0, 5, 's'), 6);
    Snowpalace itself = Edge.snowy();
    itself.weather(0, 170, 170, 0, 100);
    Edge.due("300 on 300", itself.put(0, 0, 0, 's'), 1);
    Snowpalace weak = Edge.snowy();
    weak.weather(0, 171, 171, 0, 100);
    Edge.due("300 on 290", weak.put(0, 0, 0, 's'), 0);
  }

  private static void fallsAtOnce() {
    Edge.sentence("All that fall, by what stands then, fall at once");
    Snowpalace city = Check.clearStock();
    city.weather(1, -20, -20, 0, 100);
    Check.column(city, 0, 2, 's');
    for (int y = 2; y < 5; y++) {
      city.put(0, 0, y, 'c');
    }
    Edge.due("2100 on 2200", city.fell(0), 0);
    Edge.due("2600 and 2300 on 2200 both", city.put(0, 0, 5, 'c'), 0);
    Snowpalace feet = Check.clearStock();
    for (int x = 1; x < 4; x += 2) {
      feet.put(0, x, 0, 's');
      feet.put(0, x, 1, 'c');
      feet.put(0, x, 2, 'c');
    }
    for (int y = 1; y < 5; y++) {
      feet.put(0, 2, y, 'c');
    }
    Edge.due("2300 on both feet", feet.load(0, 1, 0) + feet.load(0, 3, 0), 4600);
    Edge.due("2550 on both, so neither is spared by the other", feet.put(0, 2, 5, 'c'), 0);
    Edge.due("all fell", feet.fell(0), 11);
    Snowpalace first = Check.clearStock();
    Check.column(first, 2, 2, 'c');
    first.put(0, 0, 0, 's');
    first.weather(1, 200, 200, 0, 100);
    Edge.due("one by its load, one that does not stand", first.carve(0, 2, 0, 0), 2);
    Edge.due("at once, so the greater place is told", first.lastFell(0), 10);
    Snowpalace second = Check.clearStock();
    Check.column(second, 2, 2, 'c');
    second.put(0, 7, 0, 'c');
    second.put(0, 7, 1, 's');
    second.weather(1, 200, 200, 0, 100);
    Edge.due("one that does not stand, one by its load", second.carve(0, 2, 0, 0), 2);
    Edge.due("at once, the other way round", second.lastFell(0), 15);
  }

  private static void looksAnew() {
    Edge.sentence("then it is looked at anew, till nothing falls");
    Snowpalace city = two(3, 6, 5, 2);
    city.put(0, 4, 1, 's');
    city.put(0, 4, 2, 's');
    Edge.due("with the foot: all above it, the arch, what is on it", city.carve(0, 3, 0, 0), 7);
    Edge.due("the other column stands", city.count(0), 2);
    Snowpalace none = two(3, 6, 5, 2);
    Edge.due("nothing falls", none.carve(0, 3, 5, 0), 0);
    Edge.due("none fell", none.fell(0), 0);
  }

  private static void lastFell() {
    Edge.sentence("each such time some fall at once.");
    Snowpalace times = two(0, 2, 7, 3);
    times.carve(0, 7, 0, 0);
    Edge.due("15, then 23", times.lastFell(0), 23);
    Edge.sentence("Returns where a cell fell last, of those that fell at once that time the one with the greatest place.");
    Snowpalace city = two(3, 2, 5, 2);
    city.put(0, 4, 1, 's');
    city.carve(0, 3, 0, 0);
    Edge.due("11 and 12 at once", city.lastFell(0), 12);
    Snowpalace right = two(3, 2, 5, 2);
    right.put(0, 4, 1, 's');
    right.carve(0, 5, 0, 0);
    Edge.due("12 and 13 at once", right.lastFell(0), 13);
    Snowpalace later = two(3, 3, 5, 2);
    later.put(0, 4, 1, 's');
    later.put(0, 4, 2, 's');
    later.carve(0, 3, 0, 0);
    Edge.due("11 and 12, then 19 and 20", later.lastFell(0), 20);
    Snowpalace lower = two(6, 2, 1, 2);
    lower.carve(0, 6, 0, 0);
    lower.carve(0, 1, 0, 0);
    Edge.due("14, later 9", lower.lastFell(0), 9);
    Snowpalace first = Edge.snowy();
    first.weather(0, 200, 200, 0, 100);
    first.put(0, 0, 0, 's');
    Edge.due("the place 0", first.lastFell(0), 0);
    Edge.sentence("Throws `NoSuchElementException` if none fell");
    Edge.refused("lastFell", Check.NO_ELEMENT, Edge::lively, each -> each.lastFell(1));
    Edge.refused("lastFell", Check.NO_ELEMENT, Edge::oneSite, each -> each.lastFell(0));
    Edge.first("lastFell", Check.INDEX, Check.NO_ELEMENT, Edge::lively, each -> each.lastFell(2));
    Edge.sentence("Returns how many cells fell at a site.");
    Edge.due("fell there", lower.fell(0), 2);
    lower.site();
    Edge.due("fell elsewhere", lower.fell(1), 0);
  }
}
