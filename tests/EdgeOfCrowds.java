/** Sentences of "Lamps, crowds, slides" and of promises 27 to 32. */
final class EdgeOfCrowds {
  private EdgeOfCrowds() {
  }

  static void run() {
    lamps();
    lampsRefused();
    noLight();
    lightOfOne();
    lightOfMany();
    lightAtTheEnds();
    lightPlaces();
    openWithoutCells();
    openByCreep();
    openByLoad();
    openByStrength();
    carries();
    carriesNone();
    carriesRefused();
    visits();
    visitsRefused();
    slides();
    slidesAtRest();
    slidesByWarmth();
  }

  private static Snowpalace threeKinds() {
    Snowpalace city = Check.mixedStock();
    city.put(0, 0, 0, 'c');
    city.put(0, 1, 0, 'i');
    city.put(0, 2, 0, 's');
    return city;
  }

  private static void lamps() {
    Edge.sentence("Freezes a lamp into a cell, or takes it out.");
    Snowpalace city = threeKinds();
    int money = city.money();
    Edge.due("out of a cell without one", city.lamp(0, 0, 0, false), false);
    Edge.due("which costs nothing", city.money(), money);
    Edge.due("into a cell", city.lamp(0, 0, 0, true), false);
    Edge.sentence("a lamp that was not there 50");
    Edge.due("money", city.money(), money - 50);
    Edge.due("into a cell with one", city.lamp(0, 0, 0, true), true);
    Edge.due("money for one that was there", city.money(), money - 50);
    Edge.due("out of a cell with one", city.lamp(0, 0, 0, false), true);
    Edge.due("money for taking it out", city.money(), money - 50);
    Edge.due("in again", city.lamp(0, 0, 0, true), false);
    Edge.due("money for it again", city.money(), money - 100);
    Edge.places("lamp", Edge::corners, Edge::oneSite, (each, site, x, y) -> each.lamp(site, x, y, true));
    Edge.places("lamp", Edge::corners, Edge::oneSite, (each, site, x, y) -> each.lamp(site, x, y, false));
  }

  private static void lampsRefused() {
    Edge.sentence("Throws `NoSuchElementException` if no cell is there");
    EdgeOfCells.emptyPlace("lamp", (city, site, x, y) -> city.lamp(site, x, y, true));
    EdgeOfCells.emptyPlace("lamp", (city, site, x, y) -> city.lamp(site, x, y, false));
    Edge.sentence("Throws `UnsupportedOperationException` if a lamp is to be in snow");
    Edge.refused("lamp", Check.UNSUPPORTED, EdgeOfCrowds::threeKinds, city -> city.lamp(0, 2, 0, true));
    Edge.due("none is in snow, which is no wonder", threeKinds().lamp(0, 2, 0, false), false);
    Edge.due("i", threeKinds().lamp(0, 1, 0, true), false);
    Edge.first("lamp", Check.INDEX, Check.UNSUPPORTED, EdgeOfCrowds::threeKinds, city -> city.lamp(1, 2, 0, true));
    Edge.neverBoth("lamp", Check.NO_ELEMENT, Check.UNSUPPORTED, "where no cell is there is no snow");
    Snowpalace gone = threeKinds();
    gone.lamp(0, 0, 0, true);
    gone.take(0, 0, 0);
    gone.put(0, 0, 0, 'i');
    Edge.due("another cell there has none", gone.lamp(0, 0, 0, false), false);
    Snowpalace fallen = threeKinds();
    fallen.put(0, 0, 1, 'c');
    fallen.lamp(0, 0, 1, true);
    fallen.carve(0, 0, 0, 0);
    Check.column(fallen, 0, 2, 'c');
    Edge.due("nor where one fell", fallen.lamp(0, 0, 1, false), false);
  }

  private static void light(Snowpalace city, int x, int y, float want) {
    Edge.due("light at " + x + ", " + y, city.lightBits(0, x, y), Float.floatToIntBits(want));
  }

  private static void noLight() {
    Edge.sentence("The light at a place is the sum over the lamps in its row");
    Snowpalace city = threeKinds();
    light(city, 0, 0, 0.0f);
    light(city, 7, 5, 0.0f);
    city.lamp(0, 0, 0, true);
    for (int x = 0; x < 8; x++) {
      light(city, x, 1, 0.0f);
    }
    city.lamp(0, 0, 0, false);
    light(city, 0, 0, 0.0f);
  }

  private static void lightOfOne() {
    Edge.sentence("each 1, times what each cell from that of the lamp to the place, both included, lets through");
    Snowpalace city = threeKinds();
    city.lamp(0, 0, 0, true);
    light(city, 0, 0, 0.75f);
    light(city, 1, 0, 0.75f * 0.5f);
    Edge.sentence("the strength 2500, and letting through a fourth of light; 'i' of a block, 450, 6000, a half");
    light(city, 2, 0, 0.75f * 0.5f * 0.25f);
    Edge.sentence("places without a cell let all through.");
    light(city, 3, 0, 0.75f * 0.5f * 0.25f);
    light(city, 7, 0, 0.75f * 0.5f * 0.25f);
    Snowpalace left = threeKinds();
    left.lamp(0, 1, 0, true);
    light(left, 0, 0, 0.5f * 0.75f);
    light(left, 1, 0, 0.5f);
  }

  private static void lightOfMany() {
    Edge.sentence("the sum over the lamps in its row, by x, each 1");
    Snowpalace two = threeKinds();
    two.lamp(0, 0, 0, true);
    two.lamp(0, 1, 0, true);
    light(two, 0, 0, 0.75f + 0.5f * 0.75f);
    light(two, 1, 0, 0.75f * 0.5f + 0.5f);
    light(two, 2, 0, 0.75f * 0.5f * 0.25f + 0.5f * 0.25f);
    Snowpalace full = Check.clearStock();
    for (int x = 0; x < 8; x++) {
      full.put(0, x, 0, 'c');
      full.lamp(0, x, 0, true);
    }
    for (int x = 0; x < 8; x++) {
      float sum = 0f;
      for (int lamp = 0; lamp < 8; lamp++) {
        float ray = 1f;
        for (int i = 0; i <= Math.abs(lamp - x); i++) {
          ray *= 0.75f;
        }
        sum += ray;
      }
      light(full, x, 0, sum);
    }
  }

  private static void lightAtTheEnds() {
    Edge.sentence("in turn from the lamp on, all as floats");
    Snowpalace right = Check.clearStock();
    right.put(0, 0, 0, 'c');
    right.lamp(0, 0, 0, true);
    light(right, 7, 0, 0.75f);
    for (int x = 1; x < 8; x++) {
      right.put(0, x, 0, 's');
    }
    light(right, 7, 0, 0.75f / 16384f);
    light(right, 0, 0, 0.75f);
    Snowpalace left = Check.clearStock();
    left.put(0, 7, 0, 'c');
    left.lamp(0, 7, 0, true);
    light(left, 0, 0, 0.75f);
    for (int x = 0; x < 7; x++) {
      left.put(0, x, 0, 's');
    }
    light(left, 0, 0, 0.75f / 16384f);
    light(left, 7, 0, 0.75f);
    Snowpalace high = Check.clearStock();
    Check.column(high, 7, 6, 'c');
    high.lamp(0, 7, 5, true);
    light(high, 0, 5, 0.75f);
    light(high, 7, 5, 0.75f);
    light(high, 7, 4, 0.0f);
    light(high, 0, 4, 0.0f);
    Snowpalace rows = Check.clearStock();
    Check.column(rows, 0, 2, 'c');
    rows.put(0, 7, 0, 'c');
    rows.lamp(0, 0, 1, true);
    light(rows, 7, 0, 0.0f);
    rows.lamp(0, 0, 1, false);
    rows.lamp(0, 7, 0, true);
    light(rows, 0, 1, 0.0f);
  }

  private static void lightPlaces() {
    Edge.sentence("Throws `IndexOutOfBoundsException` if there is no such site or place");
    Edge.places("lightBits", Edge::corners, Edge::oneSite, (city, site, x, y) -> city.lightBits(site, x, y));
    Edge.allowed("light where no cell is", Edge::corners, city -> city.lightBits(1, 7, 5));
  }

  private static void openWithoutCells() {
    Edge.sentence("A site is open if it has a cell");
    Snowpalace city = Edge.snowy();
    Edge.due("without", city.isOpen(0), false);
    city.put(0, 0, 0, 's');
    Edge.due("with one", city.isOpen(0), true);
    city.take(0, 0, 0);
    Edge.due("without again", city.isOpen(0), false);
    Edge.sites("isOpen", Edge::corners, Edge::oneSite, (each, site) -> each.isOpen(site));
  }

  private static void openByCreep() {
    Edge.sentence("no creep is 200 or more");
    Snowpalace one = Check.clearStock();
    one.put(0, 7, 0, 'c');
    one.put(0, 0, 0, 's');
    Snowpalace slow = Edge.after(() -> one, 199);
    Edge.due("creep", slow.creep(0, 7, 0), 199);
    Edge.due("199", slow.isOpen(0), true);
    slow.go(1);
    Edge.due("creep", slow.creep(0, 7, 0), 200);
    Edge.due("200", slow.isOpen(0), false);
    slow.go(1);
    Edge.due("201", slow.isOpen(0), false);
    slow.take(0, 7, 0);
    Edge.due("without it", slow.isOpen(0), true);
  }

  private static void openByLoad() {
    Edge.sentence("and no load times 2 is above the strength.");
    Snowpalace city = Edge.snowy();
    Check.column(city, 3, 5, 's');
    Edge.due("3000 on 2500", city.isOpen(0), false);
    city.carve(0, 3, 4, 199);
    city.carve(0, 3, 3, 50);
    Edge.due("the load", city.load(0, 3, 0), 1251);
    Edge.due("2502 on 2500", city.isOpen(0), false);
    city.carve(0, 3, 3, 1);
    Edge.due("2500 on 2500", city.isOpen(0), true);
    city.put(0, 5, 0, 's');
    Edge.due("another cell does not matter", city.isOpen(0), true);
  }

  private static void openByStrength() {
    Edge.sentence("no load times 2 is above the strength");
    Snowpalace city = Edge.snowy();
    city.put(0, 0, 0, 's');
    int[][] cases = {{140, 1}, {141, 0}, {200, 0}, {-400, 1}};
    for (int[] c : cases) {
      city.weather(0, c[0], c[0], 0, 100);
      Edge.due("600 in a warmth of " + c[0], city.isOpen(0), c[1] == 1);
    }
  }

  private static void carries() {
    Edge.sentence("A column carries as many people, 99 at most, each of 70, on its highest cell, as leave it open");
    Snowpalace city = Edge.snowy();
    city.put(0, 0, 0, 's');
    Edge.due("950 by 70", city.carries(0, 0), 13);
    city.carve(0, 0, 0, 29);
    Edge.due("979 by 70", city.carries(0, 0), 13);
    city.carve(0, 0, 0, 1);
    Edge.due("980 by 70", city.carries(0, 0), 14);
    Snowpalace most = Check.mixedStock();
    most.put(0, 7, 0, 'i');
    most.go(48);
    most.carve(0, 7, 0, 200);
    most.carve(0, 7, 0, 149);
    Edge.due("the most that are ever carried: 3139 by 70", most.carries(0, 7), 44);
    Snowpalace high = Edge.snowy();
    Check.column(high, 7, 4, 's');
    Edge.due("1250 less 1200, by 70", high.carries(0, 7), 0);
    high.carve(0, 7, 3, 20);
    Edge.due("1250 less 1180, by 70", high.carries(0, 7), 1);
    high.carve(0, 7, 3, 69);
    Edge.due("1250 less 1111, by 70", high.carries(0, 7), 1);
    high.carve(0, 7, 3, 1);
    Edge.due("1250 less 1110, by 70", high.carries(0, 7), 2);
    Edge.due("what it carries leaves no load", high.load(0, 7, 3), 210);
    Snowpalace full = Check.mixedStock();
    Check.column(full, 0, 6, 'i');
    Edge.due("at the highest place: 3000 less 2700, by 70", full.carries(0, 0), 4);
    Snowpalace light = Check.mixedStock();
    Check.column(light, 0, 5, 'i');
    for (int y = 0; y < 5; y++) {
      light.carve(0, 0, y, 200);
    }
    light.put(0, 0, 5, 's');
    Edge.due("on the snow of the highest place: 1250 less 300, by 70", light.carries(0, 0), 13);
  }

  private static void carriesNone() {
    Edge.sentence("none if it is not open.");
    Snowpalace city = Edge.snowy();
    city.put(0, 0, 0, 's');
    Check.column(city, 7, 5, 's');
    Edge.due("that column", city.carries(0, 7), 0);
    Edge.due("another column", city.carries(0, 0), 0);
    city.take(0, 7, 4);
    Edge.due("open again", city.carries(0, 0), 13);
    city.weather(0, 141, 141, 0, 100);
    Edge.due("too warm", city.carries(0, 0), 0);
  }

  private static void carriesRefused() {
    Edge.sentence("Throws `NoSuchElementException` if the column has no cell");
    Edge.range("carries", "x", Check.INDEX, 0, 7, Edge::corners, (city, x) -> x == 0 || x == 7 ? city.carries(2, x) : city.carries(0, x));
    Edge.sites("carries", Edge::corners, Edge::oneSite, (city, site) -> city.carries(site, 4));
    Edge.refused("carries", Check.NO_ELEMENT, Edge::corners, city -> city.carries(1, 0));
    Edge.refused("carries", Check.NO_ELEMENT, Edge::corners, city -> city.carries(0, 6));
    Edge.refused("carries", Check.NO_ELEMENT, Check::clearStock, city -> city.carries(0, 0));
    Edge.first("carries", Check.INDEX, Check.NO_ELEMENT, Check::clearStock, city -> city.carries(1, 0));
    Edge.refused("carries", Check.INDEX, Edge::corners, city -> city.carries(0, -8));
    Snowpalace high = Edge.snowy();
    Check.column(high, 0, 2, 's');
    Check.column(high, 2, 2, 's');
    high.put(0, 1, 1, 's');
    Edge.due("a column with an arch alone has a cell", high.carries(0, 1), 13);
    Snowpalace highest = Edge.snowy();
    Check.column(highest, 5, 6, 's');
    Check.column(highest, 7, 6, 's');
    highest.put(0, 6, 5, 's');
    Edge.due("so has one with an arch in the highest row alone", Check.answer(() -> highest.carries(0, 6)), 0);
  }

  private static void visits() {
    Edge.sentence("Visitors come to an open site, each bringing 5.");
    Snowpalace city = Edge.corners();
    int money = city.money();
    Edge.due("one", city.visit(0, 1), 1);
    Edge.due("what one brings", city.money(), money + 5);
    Edge.due("500", city.visit(0, 500), 501);
    Edge.due("what 500 bring", city.money(), money + 2505);
    Edge.due("to another site", city.visit(1, 2), 2);
    Edge.due("to the first again", city.visit(0, 1), 502);
    Edge.sentence("`people`: 1 to 500");
    Edge.range("visit", "people", Check.ARGUMENT, 1, 500, Edge::lively, (each, people) -> each.visit(0, people));
  }

  private static Snowpalace closed() {
    Snowpalace city = Edge.lively();
    Check.column(city, 7, 5, 's');
    return city;
  }

  private static void visitsRefused() {
    Edge.sentence("Throws `UnsupportedOperationException` if it is not open");
    Edge.refused("visit", Check.UNSUPPORTED, EdgeOfCrowds::closed, city -> city.visit(0, 1));
    Edge.refused("visit", Check.UNSUPPORTED, Check::clearStock, city -> city.visit(0, 500));
    Edge.allowed("visit of the other site", EdgeOfCrowds::closed, city -> city.visit(1, 1));
    Edge.sites("visit", () -> openSites(3), () -> openSites(1), (city, site) -> city.visit(site, 500));
    Edge.first("visit", Check.INDEX, Check.ARGUMENT, Edge::lively, city -> city.visit(2, 0));
    Edge.refused("visit", Check.INDEX, Edge::lively, city -> city.visit(-1, 501));
    Edge.first("visit", Check.INDEX, Check.UNSUPPORTED, EdgeOfCrowds::closed, city -> city.visit(2, 1));
    Edge.first("visit", Check.ARGUMENT, Check.UNSUPPORTED, EdgeOfCrowds::closed, city -> city.visit(0, 501));
    Edge.refused("visit", Check.ARGUMENT, Check::clearStock, city -> city.visit(0, 0));
  }

  private static Snowpalace openSites(int many) {
    Snowpalace city = new Snowpalace();
    city.lorries(20);
    for (int site = 0; site < many; site++) {
      city.site();
      city.put(site, 0, 0, 's');
    }
    return city;
  }

  private static void slide(Snowpalace city, int drop, int length, boolean mat, double want) {
    Edge.due("drop " + drop + ", length " + length + ", mat " + mat, city.squareBits(drop, length, mat), Double.doubleToLongBits(want));
  }

  private static void slides() {
    Edge.sentence("`drop`: 1 to 20");
    Edge.range("squareBits", "drop", Check.ARGUMENT, 1, 20, Edge::lively, (city, drop) -> city.squareBits(drop, 5, true));
    Edge.sentence("`length`: 5 to 60");
    Edge.range("squareBits", "length", Check.ARGUMENT, 5, 60, Edge::lively, (city, length) -> city.squareBits(1, length, false));
    Edge.sentence("The square of the speed of a slide is, as doubles, the product of 2.0 and 9.81, times a number: the drop less the product of the rub and the length");
    Snowpalace city = new Snowpalace();
    slide(city, 1, 5, false, 2.0 * 9.81 * (1.0 - 0.05 * 5.0));
    slide(city, 1, 5, true, 2.0 * 9.81 * (1.0 - 0.1 * 5.0));
    slide(city, 20, 5, false, 2.0 * 9.81 * (20.0 - 0.05 * 5.0));
    slide(city, 20, 60, true, 2.0 * 9.81 * (20.0 - 0.1 * 60.0));
  }

  private static void slidesAtRest() {
    Edge.sentence("0.0 if that is not above 0.");
    Snowpalace city = new Snowpalace();
    slide(city, 1, 20, false, 0.0);
    slide(city, 1, 21, false, 0.0);
    slide(city, 1, 19, false, 2.0 * 9.81 * (1.0 - 0.05 * 19.0));
    slide(city, 1, 10, true, 0.0);
    slide(city, 1, 9, true, 2.0 * 9.81 * (1.0 - 0.1 * 9.0));
    slide(city, 1, 60, true, 0.0);
    slide(city, 3, 60, false, 0.0);
    slide(city, 6, 60, true, 0.0);
    Snowpalace warm = Edge.always(1);
    slide(warm, 1, 10, false, 0.0);
    slide(warm, 9, 60, true, above(9.0 - (0.1 + 0.05) * 60.0));
    slide(warm, 3, 20, true, above(3.0 - (0.1 + 0.05) * 20.0));
  }

  private static double above(double number) {
    return number > 0.0 ? 2.0 * 9.81 * number : 0.0;
  }

  private static void slidesByWarmth() {
    Edge.sentence("The rub is 0.05, with a mat 0.1, and 0.05 more in warmth above 0.");
    slide(Edge.always(0), 5, 20, false, 2.0 * 9.81 * (5.0 - 0.05 * 20.0));
    slide(Edge.always(0), 5, 20, true, 2.0 * 9.81 * (5.0 - 0.1 * 20.0));
    slide(Edge.always(1), 5, 20, false, 2.0 * 9.81 * (5.0 - (0.05 + 0.05) * 20.0));
    slide(Edge.always(1), 5, 20, true, 2.0 * 9.81 * (5.0 - (0.1 + 0.05) * 20.0));
    slide(Edge.always(-1), 5, 20, true, 2.0 * 9.81 * (5.0 - 0.1 * 20.0));
    for (int drop = 1; drop <= 20; drop++) {
      for (int length = 5; length <= 60; length += 11) {
        slide(Edge.always(200), drop, length, true, above(drop - (0.1 + 0.05) * length));
      }
    }
  }
}
