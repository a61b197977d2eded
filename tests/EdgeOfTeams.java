/** Sentences of "Teams, taking down" and of promises 33 to 38. */
final class EdgeOfTeams {
  private EdgeOfTeams() {
  }

  static void run() {
    carvedMass();
    carvedAway();
    smallMass();
    hours();
    carveOrder();
    whatFalls();
    plans();
    judging();
    marks();
    taking();
    takingRefused();
    takingInWarmth();
  }

  private static Snowpalace oneClear() {
    Snowpalace city = Check.clearStock();
    city.put(0, 3, 0, 'c');
    return city;
  }

  private static void carvedMass() {
    Edge.sentence("`mass`: 1 to 200 for so much mass less, 0 to take it");
    Edge.range("carve", "mass", Check.ARGUMENT, 0, 200, EdgeOfTeams::oneClear, (city, mass) -> city.carve(0, 3, 0, mass));
    Snowpalace city = oneClear();
    Edge.due("1", city.carve(0, 3, 0, 1), 0);
    Edge.due("mass", city.mass(0, 3, 0), 499);
    Edge.due("200", city.carve(0, 3, 0, 200), 0);
    Edge.due("mass", city.mass(0, 3, 0), 299);
    Edge.due("0", city.carve(0, 3, 0, 0), 0);
    Edge.due("it is away", city.at(0, 3, 0), '.');
    Edge.places("carve", Edge::corners, Edge::oneSite, (each, site, x, y) -> each.carve(site, x, y, 1));
    Edge.places("carve", Edge::corners, Edge::oneSite, (each, site, x, y) -> each.carve(site, x, y, 0));
    EdgeOfCells.emptyPlace("carve", (each, site, x, y) -> each.carve(site, x, y, 1));
    EdgeOfCells.emptyPlace("carve", (each, site, x, y) -> each.carve(site, x, y, 0));
  }

  private static void carvedAway() {
    Edge.sentence("a cell, of any kind, is taken, or carved to have as much mass less as told");
    for (char kind : new char[] {'s', 'i', 'c'}) {
      Snowpalace city = Check.mixedStock();
      city.put(0, 0, 0, kind);
      int mass = city.mass(0, 0, 0);
      city.carve(0, 0, 0, 7);
      Edge.due("mass of " + kind, city.mass(0, 0, 0), mass - 7);
      int snow = city.snow();
      int blocks = city.yard(true) + city.yard(false);
      int money = city.money();
      Edge.due(kind + " taken", city.carve(0, 0, 0, 0), 0);
      Edge.due("none is left", city.count(0), 0);
      Edge.due("it did not fall", city.fell(0), 0);
      Edge.due("no snow of it", city.snow(), snow);
      Edge.due("no block of it", city.yard(true) + city.yard(false), blocks);
      Edge.due("no money", city.money(), money);
    }
  }

  private static Snowpalace carvedTo(int mass) {
    Snowpalace city = Check.mixedStock();
    city.put(0, 0, 0, 's');
    city.carve(0, 0, 0, Math.min(199, 300 - mass));
    return city;
  }

  private static void smallMass() {
    Edge.sentence("Throws `UnsupportedOperationException` if it would have a mass of 100 or less");
    Edge.due("to 101 at once", carvedTo(101).mass(0, 0, 0), 101);
    Edge.refused("carve", Check.UNSUPPORTED, () -> carvedTo(101), city -> city.carve(0, 0, 0, 1));
    Edge.refused("carve", Check.UNSUPPORTED, () -> carvedTo(101), city -> city.carve(0, 0, 0, 200));
    Edge.refused("carve", Check.UNSUPPORTED, () -> carvedTo(299), city -> city.carve(0, 0, 0, 199));
    Edge.refused("carve", Check.UNSUPPORTED, () -> carvedTo(299), city -> city.carve(0, 0, 0, 200));
    Edge.due("to 101", carvedTo(299).carve(0, 0, 0, 198), 0);
    Edge.due("101 is taken all the same", carvedTo(101).carve(0, 0, 0, 0), 0);
  }

  /** A site where so many hours were carved, each for 1 of mass. */
  private static Snowpalace carvedHours(int hours) {
    Snowpalace city = oneClear();
    for (int i = 0; i < hours; i++) {
      city.carve(0, 3, 0, 1);
    }
    return city;
  }

  private static void hours() {
    Edge.sentence("A site can be carved, for 60 hours in all, which need no time of the clock");
    Edge.due("all at first", carvedHours(0).hours(0), 60);
    Snowpalace city = carvedHours(59);
    Edge.due("one is left", city.hours(0), 1);
    Edge.due("the last", city.carve(0, 3, 0, 1), 0);
    Edge.due("none is left", city.hours(0), 0);
    Edge.due("mass", city.mass(0, 3, 0), 440);
    Edge.due("the clock", city.now(), 24);
    Snowpalace taken = carvedHours(58);
    taken.put(0, 5, 0, 'c');
    Edge.due("taking", taken.carve(0, 5, 0, 0), 0);
    Edge.due("is an hour too", taken.hours(0), 1);
    Edge.due("the last to take it", taken.carve(0, 3, 0, 0), 0);
    Edge.due("then none is left", taken.hours(0), 0);
    Edge.due("another site has all", city.site() + city.hours(1), 61);
    Edge.due("none comes back", Edge.after(() -> carvedHours(60), 48).hours(0), 0);
    Edge.sentence("Throws `IllegalStateException` if 60 hours were carved");
    Edge.refused("carve", Check.STATE, () -> carvedHours(60), each -> each.carve(0, 3, 0, 1));
    Edge.refused("carve", Check.STATE, () -> carvedHours(60), each -> each.carve(0, 3, 0, 0));
    Edge.refused("carve", Check.STATE, () -> Edge.after(() -> carvedHours(60), 480), each -> each.carve(0, 3, 0, 1));
    Edge.allowed("carving another site", () -> secondSite(), each -> each.carve(1, 0, 0, 1));
    Edge.sites("hours", Edge::corners, Edge::oneSite, (each, site) -> each.hours(site));
  }

  private static Snowpalace secondSite() {
    Snowpalace city = carvedHours(60);
    city.site();
    city.put(1, 0, 0, 'c');
    return city;
  }

  private static void carveOrder() {
    Edge.sentence("If several exceptions apply, the one that is listed first is thrown.");
    Edge.first("carve", Check.INDEX, Check.ARGUMENT, EdgeOfTeams::oneClear, city -> city.carve(0, 3, 6, 201));
    Edge.first("carve", Check.INDEX, Check.NO_ELEMENT, EdgeOfTeams::oneClear, city -> city.carve(1, 3, 0, 1));
    Edge.first("carve", Check.INDEX, Check.STATE, () -> carvedHours(60), city -> city.carve(0, 8, 0, 1));
    Edge.first("carve", Check.INDEX, Check.UNSUPPORTED, () -> carvedTo(101), city -> city.carve(0, -8, 1, 200));
    Edge.first("carve", Check.ARGUMENT, Check.NO_ELEMENT, EdgeOfTeams::oneClear, city -> city.carve(0, 4, 0, 201));
    Edge.first("carve", Check.ARGUMENT, Check.STATE, () -> carvedHours(60), city -> city.carve(0, 3, 0, -1));
    Edge.first("carve", Check.ARGUMENT, Check.UNSUPPORTED, () -> carvedTo(101), city -> city.carve(0, 0, 0, 201));
    Edge.first("carve", Check.NO_ELEMENT, Check.STATE, () -> carvedHours(60), city -> city.carve(0, 4, 0, 0));
    Edge.neverBoth("carve", Check.NO_ELEMENT, Check.UNSUPPORTED, "where no cell is there is no mass");
    Edge.first("carve", Check.STATE, Check.UNSUPPORTED, () -> smallOne(60), city -> city.carve(0, 3, 0, 200));
    Edge.refused("carve", Check.UNSUPPORTED, () -> smallOne(59), city -> city.carve(0, 3, 0, 200));
  }

  /** A cell of the mass 280 or so, for which so many hours were carved. */
  private static Snowpalace smallOne(int hours) {
    Snowpalace city = carvedHours(hours - 1);
    city.carve(0, 3, 0, 200);
    return city;
  }

  private static void whatFalls() {
    Edge.sentence("Returns how many cells fell by that, itself not, if it is taken.");
    Snowpalace city = Check.clearStock();
    Check.column(city, 3, 4, 's');
    int money = city.money();
    Edge.due("none at the top", city.carve(0, 3, 3, 0), 0);
    Edge.due("two from the foot", city.carve(0, 3, 0, 0), 2);
    Edge.due("a cell that fell costs 200", city.money(), money - 400);
    Edge.due("they fell", city.fell(0), 2);
    Edge.due("one alone", oneClear().carve(0, 3, 0, 0), 0);
    Edge.sentence("what falls, falls then.");
    Snowpalace warm = Check.clearStock();
    warm.put(0, 0, 0, 's');
    warm.put(0, 2, 0, 's');
    warm.put(0, 4, 0, 'c');
    warm.weather(1, 200, 200, 0, 100);
    Edge.due("the carved cell itself and another", warm.carve(0, 0, 0, 1), 2);
    Snowpalace taken = Check.clearStock();
    taken.put(0, 0, 0, 's');
    taken.put(0, 2, 0, 's');
    taken.weather(1, 200, 200, 0, 100);
    Edge.due("the other one alone", taken.carve(0, 0, 0, 0), 1);
    Edge.due("the taken one did not fall", taken.fell(0), 1);
  }

  private static void plans() {
    Edge.sentence("Each place is to have a cell, or not, at first not");
    Snowpalace city = new Snowpalace();
    city.site();
    Edge.due("none", city.plan(0, 0, 0, false), 0);
    Edge.due("one", city.plan(0, 0, 0, true), 1);
    Edge.due("the same again", city.plan(0, 0, 0, true), 1);
    for (int place = 1; place < 48; place++) {
      Edge.due("more", city.plan(0, place % 8, place / 8, true), place + 1);
    }
    Edge.due("all again", city.plan(0, 7, 5, true), 48);
    Edge.due("all but one", city.plan(0, 7, 5, false), 47);
    Edge.due("not twice", city.plan(0, 7, 5, false), 47);
    for (int place = 0; place < 47; place++) {
      Edge.due("less", city.plan(0, place % 8, place / 8, false), 46 - place);
    }
    Edge.due("of another site none", city.site() + city.plan(1, 0, 0, false), 1);
    Edge.places("plan", Edge::corners, Edge::oneSite, (each, site, x, y) -> each.plan(site, x, y, true));
    Edge.places("plan", Edge::corners, Edge::oneSite, (each, site, x, y) -> each.plan(site, x, y, false));
  }

  private static void judging() {
    Edge.sentence("the mark of a site, as it is judged, is the number of places that are as they are to be, divided by 48, less 0.05 "
        + "times how many cells fell there so far, as doubles");
    Snowpalace city = Edge.snowy();
    Edge.due("48 places", city.judge(0), 1.0);
    city.plan(0, 7, 5, true);
    Edge.due("47 places", city.judge(0), 47.0 / 48.0);
    city.put(0, 0, 0, 's');
    Edge.due("46 places", city.judge(0), 46.0 / 48.0);
    city.plan(0, 0, 0, true);
    Edge.due("47 places again", city.judge(0), 47.0 / 48.0);
    Snowpalace none = Edge.snowy();
    for (int place = 0; place < 48; place++) {
      none.plan(0, place % 8, place / 8, true);
    }
    Edge.due("no place", none.judge(0), 0.0);
    Check.column(none, 0, 2, 's');
    none.carve(0, 0, 0, 0);
    Edge.due("below 0", none.judge(0), 0.0 / 48.0 - 0.05 * 1.0);
    for (int fell = 2; fell < 30; fell++) {
      Check.column(none, 0, 2, 's');
      none.carve(0, 0, 0, 0);
      Edge.due(fell + " fell", none.judge(0), 0.0 / 48.0 - 0.05 * fell);
    }
    Edge.sites("judge", Edge::corners, Edge::oneSite, (each, site) -> each.judge(site));
  }

  private static void marks() {
    Edge.sentence("it stays, whatever stands later, till it is judged again.");
    Snowpalace city = Edge.snowy();
    city.judge(0);
    city.put(0, 0, 0, 's');
    city.put(0, 0, 1, 's');
    city.carve(0, 0, 0, 0);
    city.plan(0, 3, 3, true);
    city.go(48);
    Edge.due("it stays", city.mark(0), 1.0);
    Edge.due("judged again", city.judge(0), 47.0 / 48.0 - 0.05);
    Edge.due("the mark then", city.mark(0), 47.0 / 48.0 - 0.05);
    Edge.sentence("Throws `NoSuchElementException` if it was not judged");
    Edge.refused("mark", Check.NO_ELEMENT, Edge::oneSite, each -> each.mark(0));
    Edge.refused("mark", Check.NO_ELEMENT, Edge::lively, each -> each.mark(1));
    Edge.first("mark", Check.INDEX, Check.NO_ELEMENT, Edge::lively, each -> each.mark(2));
    Edge.sites("mark", Edge::corners, Edge::oneSite, (each, site) -> each.mark(site));
    Snowpalace nothing = Edge.snowy();
    for (int place = 0; place < 48; place++) {
      nothing.plan(0, place % 8, place / 8, true);
    }
    nothing.judge(0);
    Edge.due("a mark of 0 is one", nothing.mark(0), 0.0);
  }

  private static void taking() {
    Edge.sentence("Something that is taken down, by hand, is taken only if nothing else would fall by that.");
    Snowpalace city = Check.mixedStock();
    Check.column(city, 0, 6, 's');
    for (int y = 5; y >= 0; y--) {
      Edge.due("from the top", city.take(0, 0, y), 300);
    }
    Edge.due("to the last", city.count(0), 0);
    Edge.due("no snow comes back", city.snow(), 500 - 6 * 4);
    city.put(0, 7, 0, 'c');
    city.carve(0, 7, 0, 200);
    city.carve(0, 7, 0, 199);
    int money = city.money();
    Edge.due("what is left of a cell", city.take(0, 7, 0), 101);
    Edge.due("for no money", city.money(), money);
    Edge.due("for no block", city.yard(true), 79);
    Edge.due("in no hour of carving", city.hours(0), 58);
    Edge.due("without falling", city.fell(0), 0);
    Edge.places("take", Edge::corners, Edge::oneSite, (each, site, x, y) -> each.take(site, x, y));
    EdgeOfCells.emptyPlace("take", (each, site, x, y) -> each.take(site, x, y));
  }

  private static Snowpalace arch() {
    Snowpalace city = Check.clearStock();
    Check.column(city, 1, 2, 'c');
    Check.column(city, 3, 2, 'c');
    city.put(0, 2, 1, 's');
    return city;
  }

  /** Without its foot the middle column would be an arch, and the snow left of it would bear 2650 less what is carved. */
  private static Snowpalace heavyMiddle(int carved) {
    Snowpalace city = Check.clearStock();
    Check.column(city, 1, 2, 's');
    Check.column(city, 3, 2, 's');
    Check.column(city, 2, 6, 'c');
    city.put(0, 1, 2, 'c');
    city.put(0, 1, 3, 'c');
    city.carve(0, 1, 3, 200);
    city.carve(0, 1, 2, carved);
    return city;
  }

  private static void takingRefused() {
    Edge.sentence("Throws `UnsupportedOperationException` if something else would fall");
    Edge.refused("take", Check.UNSUPPORTED, Edge::corners, city -> city.take(2, 0, 4));
    Edge.refused("take", Check.UNSUPPORTED, Edge::corners, city -> city.take(2, 7, 0));
    Edge.refused("take", Check.UNSUPPORTED, EdgeOfTeams::arch, city -> city.take(0, 1, 1));
    Edge.refused("take", Check.UNSUPPORTED, EdgeOfTeams::arch, city -> city.take(0, 3, 1));
    Edge.refused("take", Check.UNSUPPORTED, EdgeOfTeams::arch, city -> city.take(0, 3, 0));
    Edge.due("the arch itself", arch().take(0, 2, 1), 300);
    Edge.refused("take", Check.UNSUPPORTED, () -> heavyMiddle(149), city -> city.take(0, 2, 0));
    Snowpalace lighter = heavyMiddle(150);
    Edge.due("2500 on 2500 at its side", lighter.take(0, 2, 0), 500);
    Edge.due("load there", lighter.load(0, 1, 0), 2500);
    Edge.first("take", Check.INDEX, Check.NO_ELEMENT, Edge::corners, city -> city.take(3, 0, 0));
    Edge.first("take", Check.INDEX, Check.UNSUPPORTED, EdgeOfTeams::weak, city -> city.take(0, 8, 0));
    Edge.first("take", Check.NO_ELEMENT, Check.UNSUPPORTED, EdgeOfTeams::weak, city -> city.take(0, 5, 0));
  }

  /** Snow that this hour's warmth has made too weak, so that it falls as soon as it is looked at; and clear ice. */
  private static Snowpalace weak() {
    Snowpalace city = Check.clearStock();
    city.put(0, 0, 0, 's');
    city.put(0, 2, 0, 'c');
    city.weather(1, 200, 200, 0, 100);
    return city;
  }

  private static void takingInWarmth() {
    Edge.sentence("is taken only if nothing else would fall by that.");
    Edge.refused("take", Check.UNSUPPORTED, EdgeOfTeams::weak, city -> city.take(0, 2, 0));
    Edge.due("what is weak itself", weak().take(0, 0, 0), 300);
  }
}
