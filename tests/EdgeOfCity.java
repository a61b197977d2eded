/** Sentences about money, about the whole city, about exceptions, and of promises 39 to 44. */
final class EdgeOfCity {
  private EdgeOfCity() {
  }

  static void run() {
    money();
    counts();
    shares();
    meanCreeps();
    checksumOfNothing();
    checksumOfAll();
    sound();
  }

  private static void money() {
    Edge.sentence("Money is 0 at first: a lorry costs 100, a block 20, a cell that is put 10");
    Edge.due("at first", new Snowpalace().money(), 0);
    Snowpalace city = Edge.after(() -> Edge.always(-400), 13);
    city.lorries(1);
    Edge.due("a lorry", city.money(), -100);
    city.lorries(20);
    Edge.due("20 lorries more", city.money(), -2100);
    city.cut(0, 1);
    Edge.due("a block", city.money(), -2120);
    city.cut(0, 20);
    Edge.due("20 blocks more", city.money(), -2520);
    city.site();
    Edge.due("a site", city.money(), -2520);
    city.put(0, 0, 0, 's');
    Edge.due("a cell", city.money(), -2530);
    Edge.sentence("a lamp that was not there 50, a cover that was not there 300, a cell that fell 200; visitors bring theirs.");
    city.put(0, 1, 0, 'c');
    city.lamp(0, 1, 0, true);
    Edge.due("a cell and a lamp", city.money(), -2590);
    city.cover(0, true);
    Edge.due("a cover", city.money(), -2890);
    city.put(0, 0, 1, 's');
    city.carve(0, 0, 0, 0);
    Edge.due("a cell, and it fell", city.money(), -3100);
    city.visit(0, 500);
    Edge.due("visitors", city.money(), -600);
    Edge.sentence("It may be below 0.");
    city.visit(0, 119);
    Edge.due("just below", city.money(), -5);
    city.visit(0, 1);
    Edge.due("just 0", city.money(), 0);
    city.visit(0, 1);
    Edge.due("just above", city.money(), 5);
    city.lorries(20);
    Edge.due("below again", city.money(), -1995);
    Snowpalace warm = Edge.snowy();
    warm.weather(0, 200, 200, 0, 100);
    warm.put(0, 0, 0, 's');
    Edge.due("a cell that fell as it was put", warm.money(), -10210);
  }

  private static void counts() {
    Edge.sentence("Returns how many cells a site has.");
    Snowpalace city = Edge.snowy();
    Edge.due("none", city.count(0), 0);
    for (int place = 0; place < 48; place++) {
      city.put(0, place % 8, place / 8, 's');
      Edge.due("more", city.count(0), place + 1);
    }
    city.take(0, 3, 5);
    Edge.due("one less", city.count(0), 47);
    city.site();
    Edge.due("another site", city.count(1), 0);
    Edge.sites("count", Edge::corners, Edge::oneSite, (each, site) -> each.count(site));
  }

  private static void shares() {
    Edge.sentence("Returns their number divided by that of all, both converted to float.");
    Snowpalace city = Edge.snowy();
    Edge.due("0 of 1", city.openShare(), 0.0f);
    city.put(0, 0, 0, 's');
    Edge.due("1 of 1", city.openShare(), 1.0f);
    city.site();
    Edge.due("1 of 2", city.openShare(), 0.5f);
    city.site();
    Edge.due("1 of 3", city.openShare(), 1.0f / 3.0f);
    city.put(2, 0, 0, 's');
    Edge.due("2 of 3", city.openShare(), 2.0f / 3.0f);
    city.put(1, 0, 0, 's');
    Edge.due("3 of 3", city.openShare(), 1.0f);
    city.weather(0, 200, 200, 0, 100);
    Edge.due("0 of 3", city.openShare(), 0.0f);
    Edge.sentence("Throws `ArithmeticException` if there are none");
    Edge.refused("openShare", Check.ARITHMETIC, Snowpalace::new, Snowpalace::openShare);
    Edge.refused("openShare", Check.ARITHMETIC, () -> Edge.after(Snowpalace::new, 504), Snowpalace::openShare);
  }

  private static void meanCreeps() {
    Edge.sentence("Returns the sum divided by their number, both converted to double.");
    Snowpalace city = Check.clearStock();
    Check.column(city, 0, 3, 'c');
    Edge.due("0 by 3", city.meanCreep(0), 0.0);
    city.go(1);
    Edge.due("6 by 3", city.meanCreep(0), 2.0);
    for (int x = 1; x < 5; x++) {
      city.put(0, x, 0, 's');
    }
    Edge.due("6 by 7", city.meanCreep(0), 6.0 / 7.0);
    city.carve(0, 0, 1, 0);
    Edge.due("3 by 5, what fell is out", city.meanCreep(0), 3.0 / 5.0);
    Edge.sentence("Throws `ArithmeticException` if there are none");
    Edge.refused("meanCreep", Check.ARITHMETIC, Check::clearStock, each -> each.meanCreep(0));
    Edge.refused("meanCreep", Check.ARITHMETIC, EdgeOfCity::emptied, each -> each.meanCreep(0));
    Edge.first("meanCreep", Check.INDEX, Check.ARITHMETIC, Check::clearStock, each -> each.meanCreep(1));
    Edge.sites("meanCreep", Edge::corners, Edge::oneSite, (each, site) -> each.meanCreep(site));
  }

  private static Snowpalace emptied() {
    Snowpalace city = Check.clearStock();
    city.put(0, 0, 0, 'c');
    city.go(5);
    city.take(0, 0, 0);
    return city;
  }

  private static long sum(long start, long... numbers) {
    long sum = start;
    for (long number : numbers) {
      sum = 31 * sum + number;
    }
    return sum;
  }

  private static void checksumOfNothing() {
    Edge.sentence("Returns 7 at first");
    Edge.due("without sites, money, snow, ice", new Snowpalace().checksum(), sum(7, 0, 0, 0, 0, 0, 0));
    Edge.sentence("then for each site and each place, by 8 times y plus x, 31 times itself plus 0 without a cell");
    Snowpalace city = new Snowpalace();
    city.site();
    Edge.due("a site without cells", city.checksum(), sum(sum(7, new long[48]), 0, 0, 0, 0, 0, 0));
    city.site();
    city.site();
    Edge.due("three", city.checksum(), sum(sum(7, new long[144]), 0, 0, 0, 0, 0, 0));
  }

  private static void checksumOfAll() {
    Edge.sentence("else the mass plus the creep; then 31 times itself plus the money, then 31 times itself plus the snow, then for each "
        + "field likewise plus its ice.");
    Snowpalace city = Edge.corners();
    city.go(48);
    city.lorries(3);
    long sum = 7;
    for (int site = 0; site < 3; site++) {
      for (int place = 0; place < 48; place++) {
        boolean none = city.at(site, place % 8, place / 8) == '.';
        sum = 31 * sum + (none ? 0 : city.mass(site, place % 8, place / 8) + city.creep(site, place % 8, place / 8));
      }
    }
    sum = sum(sum, city.money(), city.snow());
    for (int field = 0; field < 4; field++) {
      sum = sum(sum, city.ice(field));
    }
    Edge.due("corners", city.checksum(), sum);
    Edge.due("they crept", city.creep(2, 0, 0) > 0, true);
  }

  private static void sound() {
    Edge.sentence("each cell stands; of each site all masses sum to the loads of cells on the ground; and clear ice is no more than all "
        + "ice.");
    Edge.due("nothing at all", new Snowpalace().isSound(), true);
    Edge.due("all ice is clear", Edge.after(() -> Edge.always(-100), 48).isSound(), true);
    Snowpalace odd = Edge.snowy();
    Check.column(odd, 0, 2, 's');
    Check.column(odd, 2, 2, 's');
    odd.put(0, 1, 1, 's');
    odd.carve(0, 1, 1, 1);
    Edge.due("an odd arch", odd.isSound(), true);
    odd.carve(0, 0, 0, 0);
    Edge.due("behind falling", odd.isSound(), true);
    Snowpalace warm = Edge.lively();
    warm.weather(7, 200, 200, 30, 0);
    for (int i = 0; i < 7; i++) {
      warm.go(12);
      Edge.due("in sun, wind and thaw", warm.isSound(), true);
    }
    Snowpalace full = Edge.snowy();
    for (int place = 0; place < 48; place++) {
      full.put(0, place % 8, place / 8, 's');
    }
    Edge.due("with 48 cells", full.isSound(), true);
    for (int x = 1; x < 8; x += 2) {
      full.carve(0, x, 0, 0);
    }
    Edge.due("without every other foot", full.isSound(), true);
  }
}
