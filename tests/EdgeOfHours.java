/** Sentences of "What stands" about what an hour does: sun, wind, falling, creep and age; and of promises 21, 22 and 26. */
final class EdgeOfHours {
  private EdgeOfHours() {
  }

  static void run() {
    sunHours();
    sunWarmth();
    sunPlaces();
    windStrength();
    windHours();
    windPlaces();
    aheadOfBoth();
    smallMass();
    loadLater();
    strengthOfTheHour();
    creep();
    creepAtLeast();
    creepWithLamp();
    creepOfWhatStays();
    age();
    cover();
    siteAfterSite();
  }

  /** A cell of snow in the middle of the ground; the day 0 has the given weather. */
  private static Snowpalace lone(int low, int high, int wind) {
    Snowpalace city = Edge.snowy();
    city.weather(0, low, high, wind, 100);
    city.put(0, 4, 0, 's');
    return city;
  }

  private static int massAfter(Snowpalace city, int hours) {
    city.go(hours);
    return city.mass(0, 4, 0);
  }

  private static void sunHours() {
    Edge.sentence("in the hours 10 to 14 of a day");
    Snowpalace city = lone(-60, -60, 0);
    Edge.due("to the hour 9", massAfter(city, 10), 300);
    Edge.due("in the hour 10", massAfter(city, 1), 298);
    Edge.due("to the hour 13", massAfter(city, 3), 292);
    Edge.due("in the hour 14", massAfter(city, 1), 290);
    Edge.due("in the hour 15", massAfter(city, 1), 290);
    Edge.due("to the end of the day", massAfter(city, 8), 290);
    Snowpalace next = Edge.snowy();
    next.weather(1, -60, -60, 0, 100);
    next.put(0, 4, 0, 's');
    Edge.due("to the hour 9 of the next day", massAfter(next, 34), 300);
    Edge.due("in the hours 10 to 14 of the next day", massAfter(next, 14), 290);
  }

  private static void sunWarmth() {
    Edge.sentence("if the warmth of the hour is above -100, each cell without a cell right of it loses a twentieth, cut, of the warmth "
        + "and 100");
    int[][] cases = {{-400, 0}, {-121, 0}, {-120, 0}, {-101, 0}, {-100, 0}, {-99, 0}, {-81, 0}, {-80, 1}, {-61, 1}, {-60, 2}, {0, 5},
        {1, 5}, {160, 13}};
    for (int[] c : cases) {
      Snowpalace city = Edge.snowy();
      city.weather(0, c[0], c[0], 0, 100);
      city.put(0, 4, 0, 's');
      city.go(10);
      Edge.due("an hour of " + c[0], massAfter(city, 1), 300 - c[1]);
    }
    Snowpalace block = Check.mixedStock();
    block.weather(6, 200, 200, 0, 100);
    block.put(0, 4, 0, 'i');
    Edge.due("the warmest hours", massAfter(block, 24), 450 - 5 * 15);
  }

  /** At each place of a row whether a cell is there, and what it has then lost. */
  private static void row(String cells, String lost, int y, int wind, int warmth, int hours) {
    Snowpalace city = Edge.snowy();
    city.weather(0, warmth, warmth, wind, 100);
    for (int x = 0; x < 8; x++) {
      for (int below = 0; below < y; below++) {
        city.put(0, x, below, 's');
      }
      if (cells.charAt(x) == 's') {
        city.put(0, x, y, 's');
      }
    }
    city.go(hours);
    for (int x = 0; x < 8; x++) {
      if (cells.charAt(x) == 's') {
        Edge.due("lost at x " + x + ", y " + y + " of " + cells, 300 - city.mass(0, x, y), lost.charAt(x) - '0');
      }
    }
  }

  private static void sunPlaces() {
    Edge.sentence("each cell without a cell right of it");
    row("s.......", "2.......", 0, 0, -60, 11);
    row(".......s", ".......2", 0, 0, -60, 11);
    row("ssssssss", "00000002", 0, 0, -60, 11);
    row("ss.ss.ss", "02.02.02", 0, 0, -60, 11);
    row("s......s", "2......2", 0, 0, -60, 11);
    row("s......s", "2......2", 1, 0, -60, 11);
    row(".s.s.ss.", ".2.2.02.", 5, 0, -60, 11);
    Snowpalace ends = Edge.snowy();
    ends.weather(0, -60, -60, 10, 100);
    Check.column(ends, 0, 2, 's');
    ends.put(0, 6, 0, 's');
    ends.put(0, 7, 0, 's');
    ends.go(11);
    Edge.due("x 0 in the next row is not right of x 7", ends.mass(0, 7, 0), 298);
    Edge.due("nor x 7 in the row below left of x 0", ends.mass(0, 0, 1), 300 - 11 * 2 - 2);
  }

  private static void windStrength() {
    Edge.sentence("then, if there is no cover, and a wind of 10 or more, each cell without one left of it a fifth of the wind, cut");
    Snowpalace covered = lone(-200, -200, 30);
    covered.cover(0, true);
    Edge.due("an hour of the wind 30 under a cover", massAfter(covered, 1), 300);
    int[][] cases = {{0, 0}, {5, 0}, {9, 0}, {10, 2}, {14, 2}, {15, 3}, {29, 5}, {30, 6}};
    for (int[] c : cases) {
      Edge.due("an hour of the wind " + c[0], massAfter(lone(-200, -200, c[0]), 1), 300 - c[1]);
    }
  }

  private static void windHours() {
    Edge.sentence("and a wind of 10 or more");
    Snowpalace city = lone(-200, -200, 10);
    Edge.due("each hour of the day", massAfter(city, 23), 254);
    Edge.due("the last hour of the day", massAfter(city, 1), 252);
    Edge.due("the first without", massAfter(city, 1), 252);
    Snowpalace last = Edge.snowy();
    last.weather(20, -200, -200, 30, 100);
    last.put(0, 4, 0, 's');
    Edge.after(() -> last, 503);
    Edge.due("ahead of the last hour of all", last.mass(0, 4, 0), 300 - 23 * 6);
    Edge.due("the last hour of all", massAfter(last, 1), 300 - 24 * 6);
  }

  private static void windPlaces() {
    Edge.sentence("each cell without one left of it");
    row("s.......", "2.......", 0, 10, -200, 1);
    row(".......s", ".......2", 0, 10, -200, 1);
    row("ssssssss", "20000000", 0, 10, -200, 1);
    row("ss.ss.ss", "20.20.20", 0, 10, -200, 1);
    row("s......s", "2......2", 1, 10, -200, 1);
    row(".s.s.ss.", ".2.2.20.", 5, 10, -200, 1);
    Edge.sentence("both looked at as all stood ahead of that");
    Snowpalace city = lone(-60, -60, 10);
    Edge.due("wind alone", massAfter(city, 10), 280);
    Edge.due("wind and sun", massAfter(city, 1), 276);
  }

  /** Two cells side by side, of which one is eaten up in the next hour. */
  private static Snowpalace pair(int small, int carved, int wind) {
    Snowpalace city = Check.mixedStock();
    city.weather(6, -60, -60, wind, 100);
    city.put(0, 3, 0, 's');
    city.put(0, 4, 0, 's');
    city.go(10);
    city.carve(0, small, 0, carved);
    return city;
  }

  private static void aheadOfBoth() {
    Edge.sentence("both looked at as all stood ahead of that");
    Snowpalace wind = pair(3, 179, 10);
    Edge.due("101 is left", wind.mass(0, 3, 0), 101);
    Edge.due("behind it nothing was eaten by wind", massAfter(wind, 1), 298);
    Edge.due("it fell", wind.at(0, 3, 0), '.');
    Edge.due("then wind and sun", massAfter(wind, 1), 294);
    Snowpalace sun = pair(4, 179, 0);
    sun.carve(0, 4, 0, 20);
    Edge.due("101 is left", sun.mass(0, 4, 0), 101);
    sun.go(1);
    Edge.due("it fell by sun", sun.at(0, 4, 0), '.');
    Edge.due("the one left of it had no sun", sun.mass(0, 3, 0), 300);
    sun.go(1);
    Edge.due("then it has", sun.mass(0, 3, 0), 298);
  }

  private static void smallMass() {
    Edge.sentence("one with a mass of 100 or less falls.");
    Snowpalace just = lone(-200, -200, 10);
    just.carve(0, 4, 0, 198);
    just.go(1);
    Edge.due("100 falls", just.count(0), 0);
    Edge.due("it is told", just.lastFell(0), 4);
    Edge.due("it costs", just.money(), -10000 - 10 - 200);
    Snowpalace above = lone(-200, -200, 10);
    above.carve(0, 4, 0, 197);
    Edge.due("101 stands", massAfter(above, 1), 101);
    above.go(1);
    Edge.due("99 falls", above.count(0), 0);
    Snowpalace both = lone(0, 0, 30);
    both.carve(0, 4, 0, 60 + 29);
    both.go(10);
    both.carve(0, 4, 0, 39);
    Edge.due("112 ahead of both", both.mass(0, 4, 0), 112);
    Edge.due("5 and 6: 101 stands", massAfter(both, 1), 101);
    Snowpalace fewer = lone(0, 0, 30);
    fewer.go(10);
    fewer.carve(0, 4, 0, 129);
    Edge.due("111 ahead of both", fewer.mass(0, 4, 0), 111);
    fewer.go(1);
    Edge.due("5 and 6: 100 falls", fewer.count(0), 0);
    Snowpalace covered = lone(-200, -200, 30);
    covered.carve(0, 4, 0, 199);
    covered.cover(0, true);
    Edge.due("101 under a cover", massAfter(covered, 48), 101);
  }

  /** Two cells of snow, 48 hours old, in a warmth of 188 in the hour 9 and 189 in the hour 10, when the strength is 590. */
  private static Snowpalace warmColumn(boolean covered) {
    Snowpalace city = Edge.snowy();
    city.weather(2, 180, 191, 0, 100);
    Check.column(city, 4, 2, 's');
    city.cover(0, covered);
    return Edge.after(() -> city, 58);
  }

  private static void loadLater() {
    Edge.sentence("Then what falls by load falls");
    Snowpalace sunny = warmColumn(false);
    Edge.due("600 on 590 as the hour begins", sunny.load(0, 4, 0) * 1000 + sunny.strength(0, 4, 0), 600590);
    sunny.go(1);
    Edge.due("first the sun takes 14 of each", sunny.load(0, 4, 0), 572);
    Edge.due("so none fell", sunny.fell(0), 0);
    Snowpalace covered = warmColumn(true);
    covered.go(1);
    Edge.due("under a cover both fell", covered.fell(0), 2);
    Edge.due("which costs", covered.money(), -10000 - 20 - 300 - 400);
    Snowpalace eaten = lone(-200, -200, 10);
    eaten.put(0, 4, 1, 's');
    eaten.carve(0, 4, 0, 198);
    eaten.go(1);
    Edge.due("what stood on it falls in the same hour", eaten.fell(0), 2);
    Edge.due("but later", eaten.lastFell(0), 12);
    Snowpalace apart = Check.clearStock();
    apart.put(0, 0, 0, 's');
    apart.put(0, 4, 0, 'c');
    apart.carve(0, 4, 0, 200);
    apart.carve(0, 4, 0, 198);
    apart.weather(1, 200, 200, 10, 100);
    apart.go(1);
    Edge.due("one eaten up, one too weak", apart.fell(0), 2);
    Edge.due("in that order", apart.lastFell(0), 0);
    Snowpalace arch = lone(-200, -200, 10);
    Check.column(arch, 1, 2, 's');
    Check.column(arch, 3, 2, 's');
    arch.put(0, 2, 1, 's');
    arch.carve(0, 1, 1, 198);
    arch.go(1);
    Edge.due("an arch without its side too", arch.at(0, 2, 1), '.');
    Edge.due("two fell", arch.fell(0), 2);
  }

  /** 2500 on snow, put at -100 an hour ahead of a day of the given warmth. */
  private static Snowpalace heavy(int warmth) {
    Snowpalace city = Check.clearStock();
    city.weather(2, warmth, warmth, 0, 100);
    city.go(23);
    city.put(0, 0, 0, 's');
    for (int y = 1; y < 5; y++) {
      city.put(0, 0, y, 'c');
    }
    city.carve(0, 0, 4, 100);
    city.put(0, 0, 5, 's');
    city.go(1);
    return city;
  }

  private static void strengthOfTheHour() {
    Edge.sentence("In each hour, by the warmth of the hour that begins, the river and the snow come first");
    Snowpalace hour = Edge.always(0);
    hour.weather(1, -100, -100, 0, 100);
    hour.weather(2, 100, 100, 0, 100);
    hour.machine(true);
    hour.go(24);
    Edge.due("as the hour 24 begins no ice", hour.ice(0), 0);
    Edge.due("nor snow", hour.snow(), 0);
    hour.go(1);
    Edge.due("in the hour 24 ice", hour.ice(0), 10);
    Edge.due("and snow", hour.snow(), 2);
    hour.go(23);
    int ice = hour.ice(0);
    Edge.due("as the hour 48 begins snow of a day", hour.snow(), 48);
    hour.go(1);
    Edge.due("in the hour 48 less ice", hour.ice(0), ice - 10);
    Edge.due("and no more snow", hour.snow(), 48);
    Snowpalace just = heavy(-49);
    Edge.due("an hour old", just.strength(0, 0, 0), 2500);
    just.go(1);
    Edge.due("2500 on 2500 stands", just.count(0), 6);
    Snowpalace below = heavy(-48);
    Edge.due("as the hour begins all stands", below.count(0), 6);
    Edge.due("an hour old", below.strength(0, 0, 0), 2490);
    below.go(1);
    Edge.due("2500 on 2490 falls", below.count(0), 0);
    Edge.due("the age of the hour's end came too late", below.fell(0), 6);
    Edge.sentence("what falls, falls at that hour.");
    Edge.due("not ahead of it", heavy(200).count(0), 6);
    Snowpalace lit = Check.clearStock();
    lit.weather(1, 200, 200, 0, 100);
    Check.column(lit, 0, 5, 'c');
    lit.lamp(0, 0, 0, true);
    Edge.due("2500 on 2000 with a lamp", lit.load(0, 0, 0) * 10000 + lit.strength(0, 0, 0), 25002000);
    Edge.due("a lamp lets none fall", lit.fell(0), 0);
    lit.go(1);
    Edge.due("the hour lets all fall", lit.fell(0), 5);
  }

  private static int creepOf(int carved, int warmth) {
    Snowpalace city = Check.clearStock();
    city.weather(1, warmth, warmth, 0, 100);
    city.cover(0, true);
    city.put(0, 0, 0, 'c');
    city.put(0, 0, 1, 'c');
    if (carved > 0) {
      city.carve(0, 0, 1, carved);
    }
    city.go(1);
    return city.creep(0, 0, 0);
  }

  private static void creep() {
    Edge.sentence("then each cell creeps by its load times the warmth and 300, 0 at least, divided by 100000, cut");
    Edge.due("1000 times 99", creepOf(0, -201), 0);
    Edge.due("1000 times 100", creepOf(0, -200), 1);
    Edge.due("999 times 100", creepOf(1, -200), 0);
    Edge.due("1000 times 199", creepOf(0, -101), 1);
    Edge.due("1000 times 200", creepOf(0, -100), 2);
    Edge.due("1000 times 500", creepOf(0, 200), 5);
    Edge.due("800 times 500", creepOf(200, 200), 4);
    Snowpalace city = Check.clearStock();
    city.weather(1, -29, -29, 0, 100);
    city.put(0, 0, 0, 'c');
    city.put(0, 2, 0, 'c');
    city.carve(0, 0, 0, 131);
    city.carve(0, 2, 0, 130);
    city.go(1);
    Edge.due("369 times 271, 99999", city.creep(0, 0, 0), 0);
    Edge.due("370 times 271, 100270", city.creep(0, 2, 0), 1);
    city.take(0, 2, 0);
    city.put(0, 2, 0, 'c');
    Edge.due("another one there", city.creep(0, 2, 0), 0);
  }

  private static void creepAtLeast() {
    Edge.sentence("the warmth and 300, 0 at least");
    Edge.due("1000 times 0", creepOf(0, -300), 0);
    Edge.due("1000 times 1", creepOf(0, -299), 0);
    Edge.due("1000 times less than nothing", creepOf(0, -301), 0);
    Edge.due("1000 times 100 less than nothing", creepOf(0, -400), 0);
    Snowpalace city = Check.clearStock();
    city.weather(2, -400, -400, 0, 100);
    Check.column(city, 0, 2, 'c');
    city.go(24);
    Edge.due("creep of a day", city.creep(0, 0, 0), 48);
    city.go(24);
    Edge.due("no creep goes back", city.creep(0, 0, 0), 48);
  }

  private static void creepWithLamp() {
    Edge.sentence("and with a lamp twice what comes out");
    Snowpalace city = Check.clearStock();
    city.weather(1, -101, -101, 0, 100);
    Check.column(city, 0, 2, 'c');
    Check.column(city, 2, 2, 'c');
    city.lamp(0, 0, 0, true);
    city.lamp(0, 0, 1, true);
    city.go(1);
    Edge.due("twice 1.99, cut ahead of that", city.creep(0, 0, 0), 2);
    Edge.due("twice 0.995, cut ahead of that", city.creep(0, 0, 1), 0);
    Edge.due("without a lamp", city.creep(0, 2, 0), 1);
  }

  private static void creepOfWhatStays() {
    Edge.sentence("then each cell creeps by its load");
    Snowpalace city = lone(-200, -200, 10);
    Check.column(city, 6, 6, 's');
    city.carve(0, 6, 1, 198);
    city.go(1);
    Edge.due("what was on it fell ahead of that", city.count(0), 2);
    Edge.due("298 times 100, no longer 1590", city.creep(0, 6, 0), 0);
  }

  private static void age() {
    Edge.sentence("then its age is 1 more.");
    Snowpalace city = Edge.snowy();
    city.put(0, 0, 0, 's');
    Edge.due("none at first", city.age(0, 0, 0), 0);
    city.go(1);
    Edge.due("an hour", city.age(0, 0, 0), 1);
    city.put(0, 0, 1, 's');
    city.go(48);
    Edge.due("49 hours", city.age(0, 0, 0), 49);
    Edge.due("put later", city.age(0, 0, 1), 48);
    city.carve(0, 0, 1, 50);
    Edge.due("carved", city.age(0, 0, 1), 48);
    city.take(0, 0, 1);
    city.put(0, 0, 1, 's');
    Edge.due("another one there", city.age(0, 0, 1), 0);
    Edge.due("its creep", city.creep(0, 0, 1), 0);
    Edge.due("of all hours", Edge.after(() -> lone(-100, -100, 0), 504).age(0, 4, 0), 504);
  }

  private static void cover() {
    Edge.sentence("then, if the site has no cover");
    Snowpalace city = lone(-60, -60, 30);
    Edge.due("none at first", city.cover(0, false), false);
    Edge.due("which costs nothing", city.money(), -10010);
    Edge.due("put on", city.cover(0, true), false);
    Edge.sentence("a cover that was not there 300");
    Edge.due("money", city.money(), -10310);
    Edge.due("put on again", city.cover(0, true), true);
    Edge.due("money then", city.money(), -10310);
    Edge.due("neither sun nor wind", massAfter(city, 15), 300);
    Edge.due("put away", city.cover(0, false), true);
    Edge.due("which brings nothing", city.money(), -10310);
    Edge.due("wind again", massAfter(city, 1), 294);
    Edge.due("put on anew", city.cover(0, true), false);
    Edge.due("which costs again", city.money(), -10610);
    Edge.sentence("Covers a site, or not.");
    Edge.sites("cover", Edge::corners, Edge::oneSite, (each, site) -> each.cover(site, true));
    Edge.sites("cover", Edge::corners, Edge::oneSite, (each, site) -> each.cover(site, false));
  }

  private static void siteAfterSite() {
    Edge.sentence("Sites are dealt with by numbers.");
    Snowpalace city = Edge.snowy();
    city.weather(0, -200, -200, 10, 100);
    city.site();
    city.site();
    for (int site = 0; site < 3; site++) {
      city.put(site, 7, 0, 's');
    }
    city.cover(1, true);
    city.carve(2, 7, 0, 198);
    city.go(1);
    Edge.due("the first is eaten", city.mass(0, 7, 0), 298);
    Edge.due("the second is covered", city.mass(1, 7, 0), 300);
    Edge.due("in the third one fell", city.fell(2), 1);
    Edge.due("in the first none", city.fell(0), 0);
  }
}
