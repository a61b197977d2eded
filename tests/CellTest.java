/** Promises 15 to 26: sites, cells, loads, strength, creep, age, arches, falling, covers. */
public final class CellTest {
  public static void main(String[] args) {
    sites();
    put();
    putTheLast();
    putWrong();
    kinds();
    loads();
    archNeedsStandingCells();
    strength();
    age();
    creep();
    fallsByLoad();
    fallsInARow();
    fallsAtOnce();
    fallsByWarmth();
    sun();
    wind();
    sunAndWindLookedAtAhead();
    eatenUp();
    cover();
    wrongPlaces();
    Check.end();
  }

  private static void sites() {
    Snowpalace city = new Snowpalace();
    for (int site = 0; site < 3; site++) {
      final int next = site;
      Check.fails("fell of no site", city, Check.INDEX, () -> city.fell(next));
      Check.due("site", city.site(), site);
      Check.due("site is empty", city.count(site), 0);
      Check.due("fell of a new site", city.fell(site), 0);
    }
    Check.fails("a fourth site", city, Check.STATE, city::site);
    for (int site = 3; site < 6; site++) {
      final int none = site;
      Check.fails("no site " + site, city, Check.INDEX, () -> city.fell(none));
      Check.fails("no place at site " + site, city, Check.INDEX, () -> city.at(none, 0, 0));
    }
    Check.due("sites cost nothing", city.money(), 0);
  }

  private static void put() {
    Snowpalace city = Check.mixedStock();
    int money = city.money();
    Check.due("put snow", city.put(0, 0, 0, 's'), 1);
    Check.due("snow used", city.snow(), 496);
    Check.due("put block", city.put(0, 0, 1, 'i'), 2);
    Check.due("block used", city.yard(false), 79);
    Check.due("put clear block", city.put(0, 7, 0, 'c'), 3);
    Check.due("clear block used", city.yard(true), 79);
    Check.due("cells cost 10", city.money(), money - 30);
    Check.due("age of a new cell", city.age(0, 0, 0), 0);
    Check.due("creep of a new cell", city.creep(0, 0, 0), 0);
    Check.due("all the way up", put4(city), 7);
    Check.due("another site is empty", city.site(), 1);
    Check.due("its count", city.count(1), 0);
    Check.due("its place", city.at(1, 0, 0), '.');
  }

  /** What there is just enough of is enough. */
  private static void putTheLast() {
    Snowpalace city = Check.mixedStock();
    for (int place = 0; place < 32; place++) {
      city.put(0, place % 8, place / 8, 'i');
    }
    city.site();
    for (int place = 0; place < 47; place++) {
      city.put(1, place % 8, place / 8, 'i');
    }
    Check.due("one block is left", city.yard(false), 1);
    Check.due("it is put", city.put(1, 7, 5, 'i'), 48);
    Check.fails("none is left", city, Check.STATE, () -> city.put(0, 0, 4, 'i'));
    Snowpalace snowy = new Snowpalace();
    snowy.site();
    snowy.lorries(4);
    for (int x = 0; x < 4; x++) {
      snowy.put(0, x, 0, 's');
    }
    Check.due("4 snow", snowy.snow(), 4);
    Check.due("is enough", snowy.put(0, 4, 0, 's'), 5);
    Check.due("none is left", snowy.snow(), 0);
  }

  private static int put4(Snowpalace city) {
    int cells = 0;
    for (int y = 2; y < 6; y++) {
      cells = city.put(0, 0, y, 's');
    }
    return cells;
  }

  private static void putWrong() {
    Snowpalace city = new Snowpalace();
    city.site();
    city.lorries(1);
    Check.fails("put at site -1", city, Check.INDEX, () -> city.put(-1, 0, 0, 's'));
    Check.fails("put at site 1", city, Check.INDEX, () -> city.put(1, 0, 0, 's'));
    Check.fails("put at site 3", city, Check.INDEX, () -> city.put(3, 0, 0, 's'));
    Check.fails("put x -1", city, Check.INDEX, () -> city.put(0, -1, 0, 's'));
    Check.fails("put x 8", city, Check.INDEX, () -> city.put(0, 8, 0, 's'));
    Check.fails("put y -1", city, Check.INDEX, () -> city.put(0, 0, -1, 's'));
    Check.fails("put y 6", city, Check.INDEX, () -> city.put(0, 0, 6, 's'));
    Check.fails("put place and kind wrong", city, Check.INDEX, () -> city.put(0, 0, 6, 'x'));
    Check.fails("put kind wrong", city, Check.ARGUMENT, () -> city.put(0, 0, 0, '.'));
    Check.fails("put kind 0", city, Check.ARGUMENT, () -> city.put(0, 0, 0, (char) 0));
    Check.fails("put kind S", city, Check.ARGUMENT, () -> city.put(0, 0, 0, 'S'));
    Check.fails("put kind wrong in the air", city, Check.ARGUMENT, () -> city.put(0, 0, 3, 'x'));
    Check.fails("put in the air without a block", city, Check.UNSUPPORTED, () -> city.put(0, 0, 1, 'i'));
    Check.fails("put without a block", city, Check.STATE, () -> city.put(0, 0, 0, 'i'));
    Check.fails("put without a clear block", city, Check.STATE, () -> city.put(0, 0, 0, 'c'));
    Check.due("put with 5 snow", city.put(0, 0, 0, 's'), 1);
    Check.due("1 snow is left", city.snow(), 1);
    Check.fails("put with 1 snow", city, Check.STATE, () -> city.put(0, 1, 0, 's'));
    Check.fails("put where a cell is", city, Check.UNSUPPORTED, () -> city.put(0, 0, 0, 's'));
    Check.fails("put where a cell is, wrong kind", city, Check.ARGUMENT, () -> city.put(0, 0, 0, 'q'));
    city.go(48);
    city.go(48);
    city.go(48);
    city.cut(0, 1);
    Check.due("a clear block", city.yard(true), 1);
    Check.fails("a clear block is no other", city, Check.STATE, () -> city.put(0, 1, 0, 'i'));
    Check.due("put the clear block", city.put(0, 1, 0, 'c'), 2);
    Check.fails("put it twice", city, Check.STATE, () -> city.put(0, 2, 0, 'c'));
  }

  private static void kinds() {
    Snowpalace city = Check.mixedStock();
    city.put(0, 0, 0, 's');
    city.put(0, 3, 0, 'i');
    city.put(0, 6, 0, 'c');
    Check.due("at s", city.at(0, 0, 0), 's');
    Check.due("at i", city.at(0, 3, 0), 'i');
    Check.due("at c", city.at(0, 6, 0), 'c');
    Check.due("at none", city.at(0, 1, 0), '.');
    Check.due("at corner", city.at(0, 7, 5), '.');
    Check.due("mass s", city.mass(0, 0, 0), 300);
    Check.due("mass i", city.mass(0, 3, 0), 450);
    Check.due("mass c", city.mass(0, 6, 0), 500);
    Check.due("strength s", city.strength(0, 0, 0), 2500);
    Check.due("strength i", city.strength(0, 3, 0), 6000);
    Check.due("strength c", city.strength(0, 6, 0), 5000);
    Check.due("load alone", city.load(0, 0, 0), 300);
    Check.due("no arch on the ground", city.isArch(0, 0, 0), false);
  }

  private static void loads() {
    Snowpalace city = Check.mixedStock();
    Check.column(city, 1, 3, 's');
    Check.column(city, 3, 2, 'i');
    city.put(0, 2, 1, 'c');
    city.carve(0, 2, 1, 1);
    city.put(0, 2, 2, 's');
    Check.due("arch", city.isArch(0, 2, 1), true);
    Check.due("on an arch is no arch", city.isArch(0, 2, 2), false);
    Check.due("load on the arch", city.load(0, 2, 2), 300);
    Check.due("load of the arch", city.load(0, 2, 1), 799);
    Check.due("half, cut, to the left", city.load(0, 1, 1), 300 + 300 + 399);
    Check.due("the rest to the right", city.load(0, 3, 1), 450 + 400);
    Check.due("load at the foot left", city.load(0, 1, 0), 300 + 999);
    Check.due("load at the foot right", city.load(0, 3, 0), 450 + 850);
    Check.due("load on top", city.load(0, 1, 2), 300);
    Check.due("sound with an arch", city.isSound(), true);
    city.put(0, 2, 0, 's');
    Check.due("a cell below ends the arch", city.isArch(0, 2, 1), false);
    Check.due("load below", city.load(0, 2, 0), 300 + 799);
    Check.due("no load beside", city.load(0, 1, 1), 600);
    Check.due("take that foot again", city.take(0, 2, 0), 300);
    Check.due("and it is an arch again", city.isArch(0, 2, 1), true);
    twoArches();
  }

  private static void twoArches() {
    Snowpalace city = Check.mixedStock();
    Check.column(city, 0, 2, 's');
    Check.column(city, 2, 2, 's');
    Check.column(city, 4, 2, 's');
    city.put(0, 1, 1, 'i');
    city.put(0, 3, 1, 'c');
    Check.due("of an arch right half, of an arch left the rest", city.load(0, 2, 1), 300 + 225 + 250);
    city.put(0, 1, 2, 's');
    city.put(0, 2, 2, 's');
    city.put(0, 3, 2, 's');
    Check.due("loads go down at all levels", city.load(0, 2, 0), 600 + 300 + 375 + 400);
    Check.due("sound with two arches", city.isSound(), true);
  }

  private static void archNeedsStandingCells() {
    Snowpalace city = Check.mixedStock();
    Check.column(city, 0, 2, 'i');
    Check.column(city, 2, 2, 'i');
    Check.fails("an arch of one side only, right", city, Check.UNSUPPORTED, () -> city.put(0, 3, 1, 'i'));
    city.put(0, 1, 1, 'i');
    Check.column(city, 3, 1, 'i');
    Check.fails("no arch at the ground's other height", city, Check.UNSUPPORTED, () -> city.put(0, 3, 2, 'i'));
    city.take(0, 3, 0);
    city.put(0, 4, 0, 'i');
    Check.fails("none without the cell right", city, Check.UNSUPPORTED, () -> city.put(0, 3, 1, 'i'));
    city.put(0, 4, 1, 'i');
    Check.due("arch beside an arch's foot", city.put(0, 3, 1, 'i'), 8);
    Check.fails("the foot between cannot be taken", city, Check.UNSUPPORTED, () -> city.take(0, 2, 0));
    Check.column(city, 7, 2, 'i');
    Check.fails("two arches side by side", city, Check.UNSUPPORTED, () -> city.put(0, 5, 1, 'i'));
    Check.fails("nor from the other side", city, Check.UNSUPPORTED, () -> city.put(0, 6, 1, 'i'));
    Check.due("on an arch", city.put(0, 3, 2, 's'), 11);
    Check.due("beside it on a foot", city.put(0, 2, 2, 's'), 12);
    Check.fails("an edge is no arch", city, Check.UNSUPPORTED, () -> city.put(0, 7, 3, 's'));
    archAtTheEdges();
  }

  private static void archAtTheEdges() {
    Snowpalace city = Check.mixedStock();
    Check.column(city, 0, 2, 'i');
    Check.column(city, 2, 2, 'i');
    Check.due("arch at x 1", city.put(0, 1, 1, 'i'), 5);
    Check.column(city, 5, 2, 'i');
    Check.column(city, 7, 2, 'i');
    Check.due("arch at x 6", city.put(0, 6, 1, 'i'), 10);
    Check.due("its load goes left", city.load(0, 5, 1), 675);
    Check.due("its load goes right", city.load(0, 7, 1), 675);
    Check.due("sound at the edges", city.isSound(), true);
    Snowpalace row = Check.mixedStock();
    Check.column(row, 7, 2, 'i');
    Check.column(row, 1, 3, 'i');
    Check.fails("x 7 below is not left of x 0", row, Check.UNSUPPORTED, () -> row.put(0, 0, 2, 'i'));
    Snowpalace back = Check.mixedStock();
    Check.column(back, 6, 2, 'i');
    Check.column(back, 0, 3, 'i');
    Check.fails("x 0 above is not right of x 7", back, Check.UNSUPPORTED, () -> back.put(0, 7, 1, 'i'));
  }

  private static void strength() {
    Snowpalace city = new Snowpalace();
    city.site();
    city.lorries(20);
    city.put(0, 0, 0, 's');
    city.weather(0, -50, -50, 0, 100);
    Check.due("strength at -50", city.strength(0, 0, 0), 2500);
    city.weather(0, -49, -49, 0, 100);
    Check.due("strength at -49", city.strength(0, 0, 0), 2490);
    city.weather(0, 200, 200, 0, 100);
    Check.due("strength at 200 is 0 at least", city.strength(0, 0, 0), 0);
    city.weather(0, 199, 199, 0, 100);
    Check.due("strength at 199", city.strength(0, 0, 0), 10);
    city.weather(0, -100, -100, 0, 100);
    for (int day = 1; day <= 20; day++) {
      city.weather(day, -100, -100, 0, 100);
    }
    city.go(1);
    Check.due("an hour old", city.strength(0, 0, 0), 2510);
    city.go(46);
    Check.due("47 hours old", city.strength(0, 0, 0), 2970);
    city.go(1);
    Check.due("48 hours old", city.strength(0, 0, 0), 2980);
    city.go(1);
    Check.due("49 hours old", city.strength(0, 0, 0), 2980);
    for (int i = 0; i < 9; i++) {
      city.go(48);
    }
    city.go(23);
    Check.due("the last hour", city.now(), 504);
    Check.due("strength at 504, by -150", city.strength(0, 0, 0), 2980);
    Snowpalace lit = Check.clearStock();
    lit.put(0, 0, 0, 'c');
    lit.lamp(0, 0, 0, true);
    Check.due("strength with a lamp", lit.strength(0, 0, 0), 4500);
    lit.lamp(0, 0, 0, false);
    Check.due("strength without the lamp again", lit.strength(0, 0, 0), 5000);
  }

  private static void age() {
    Snowpalace city = Check.clearStock();
    city.put(0, 0, 0, 's');
    city.go(5);
    city.put(0, 0, 1, 's');
    city.go(2);
    Check.due("age below", city.age(0, 0, 0), 7);
    Check.due("age above", city.age(0, 0, 1), 2);
    city.take(0, 0, 1);
    city.put(0, 0, 1, 's');
    Check.due("age of another cell there", city.age(0, 0, 1), 0);
    city.go(48);
    Check.due("age goes on beyond 48", city.age(0, 0, 0), 55);
  }

  private static void creep() {
    Snowpalace city = Check.clearStock();
    Check.column(city, 0, 3, 'c');
    city.put(0, 7, 0, 'c');
    city.put(0, 4, 0, 'c');
    city.put(0, 4, 1, 's');
    city.lamp(0, 4, 0, true);
    city.go(1);
    Check.due("1500 times 200, by 100000", city.creep(0, 0, 0), 3);
    Check.due("1000 times 200, by 100000", city.creep(0, 0, 1), 2);
    Check.due("500 times 200, by 100000", city.creep(0, 0, 2), 1);
    Check.due("with a lamp twice what is cut: 800 times 200", city.creep(0, 4, 0), 2);
    city.go(9);
    Check.due("creep sums", city.creep(0, 0, 0), 30);
    Check.due("creep with a lamp sums", city.creep(0, 4, 0), 20);
    city.take(0, 4, 1);
    city.put(0, 4, 1, 's');
    Check.due("creep of a new cell there", city.creep(0, 4, 1), 0);
    Snowpalace colder = Check.clearStock();
    colder.weather(1, -101, -101, 0, 100);
    colder.put(0, 0, 0, 'c');
    colder.go(1);
    Check.due("500 times 199 is cut to nothing", colder.creep(0, 0, 0), 0);
    Snowpalace cold = new Snowpalace();
    cold.weather(0, -400, -300, 0, 100);
    cold.weather(1, -290, -290, 0, 100);
    cold.site();
    cold.lorries(20);
    Check.column(cold, 3, 6, 's');
    cold.go(24);
    Check.due("no creep below -300", cold.creep(0, 3, 0), 0);
    cold.go(24);
    Check.due("1800 times 10 is cut to nothing", cold.creep(0, 3, 0), 0);
  }

  private static void fallsByLoad() {
    Snowpalace city = Check.clearStock();
    city.put(0, 0, 0, 's');
    for (int y = 1; y < 5; y++) {
      city.put(0, 0, y, 'c');
    }
    Check.due("2300 on 2500", city.load(0, 0, 0), 2300);
    Check.due("none fell", city.fell(0), 0);
    int money = city.money();
    int blocks = city.yard(true);
    Check.due("2800 on 2500", city.put(0, 0, 5, 'c'), 0);
    Check.due("all fell", city.fell(0), 6);
    Check.due("the last that fell", city.lastFell(0), 40);
    Check.due("falling costs 200 each", city.money(), money - 10 - 6 * 200);
    Check.due("blocks that fell are gone", city.yard(true), blocks - 1);
    Check.due("nothing is there", city.at(0, 0, 3), '.');
    Check.due("2500 on 2500 stands", loaded(100).count(0), 6);
    Check.due("its load", loaded(100).load(0, 0, 0), 2500);
    Check.due("2501 on 2500 falls", loaded(99).count(0), 0);
  }

  /** A column on snow with 2600 in all, less what is carved. */
  private static Snowpalace loaded(int carved) {
    Snowpalace city = Check.clearStock();
    city.put(0, 0, 0, 's');
    for (int y = 1; y < 5; y++) {
      city.put(0, 0, y, 'c');
    }
    city.carve(0, 0, 4, carved);
    city.put(0, 0, 5, 's');
    return city;
  }

  private static void fallsInARow() {
    Snowpalace city = Check.clearStock();
    Check.column(city, 0, 5, 'c');
    Check.column(city, 2, 5, 'c');
    Check.column(city, 4, 5, 'c');
    for (int y = 1; y < 5; y++) {
      city.put(0, 1, y, 'c');
      city.put(0, 3, y, 'c');
    }
    Check.due("2500 and twice 1000", city.load(0, 2, 0), 4500);
    Check.due("it stands", city.fell(0), 0);
    city.put(0, 2, 5, 'c');
    Check.due("5000 on 5000 stands", city.load(0, 2, 0), 5000);
    Check.due("it still stands", city.fell(0), 0);
    Check.due("5250 falls", city.put(0, 1, 5, 'c'), 10);
    Check.due("the middle and the arches fell", city.fell(0), 15);
    Check.due("column 0 stands", city.load(0, 0, 0), 2500);
    Check.due("column 4 stands", city.load(0, 4, 0), 2500);
    Check.due("last of the last that fell at once", city.lastFell(0), 42);
  }

  private static void fallsAtOnce() {
    Snowpalace city = Check.clearStock();
    Check.column(city, 1, 3, 'c');
    Check.column(city, 3, 3, 'c');
    city.put(0, 2, 1, 'c');
    city.put(0, 2, 2, 's');
    Check.fails("lastFell at first", city, Check.NO_ELEMENT, () -> city.lastFell(0));
    Check.due("carve the left foot", city.carve(0, 1, 1, 0), 3);
    Check.due("what is above it, the arch, what is above that", city.fell(0), 3);
    Check.due("the last time one fell, not the greatest place", city.lastFell(0), 18);
    Check.due("left", city.count(0), 4);
    city.put(0, 5, 0, 's');
    city.put(0, 5, 1, 's');
    Check.due("another falls", city.carve(0, 5, 0, 0), 1);
    Check.due("the last one now", city.lastFell(0), 13);
    Check.due("a second site has none", city.site(), 1);
    Check.fails("lastFell there", city, Check.NO_ELEMENT, () -> city.lastFell(1));
    Check.fails("lastFell of no site", city, Check.INDEX, () -> city.lastFell(2));
  }

  private static void fallsByWarmth() {
    Snowpalace city = new Snowpalace();
    city.weather(0, 200, 200, 0, 100);
    city.site();
    city.lorries(20);
    Check.due("snow at 200 does not stand", city.put(0, 0, 0, 's'), 0);
    Check.due("it fell", city.fell(0), 1);
    Check.due("where", city.lastFell(0), 0);
    city.weather(0, -100, -100, 0, 100);
    city.weather(1, 170, 170, 0, 100);
    city.cover(0, true);
    Check.column(city, 0, 2, 's');
    city.go(24);
    Check.due("it stands as the warm hour begins", city.count(0), 2);
    Check.due("its strength is less than its load", city.strength(0, 0, 0), 2500 + 240 - 2200);
    Check.due("its load", city.load(0, 0, 0), 600);
    city.go(1);
    Check.due("it fell in that hour", city.count(0), 0);
    Check.due("all that fell", city.fell(0), 3);
    Check.due("the upper one last", city.lastFell(0), 8);
    Check.due("no money for the machine, all for falling", city.money(), -2000 - 30 - 300 - 600);
  }

  private static Snowpalace wall(int low, int high, int wind) {
    Snowpalace city = new Snowpalace();
    city.weather(0, low, high, wind, 100);
    city.weather(1, -400, -400, 0, 100);
    city.site();
    city.lorries(20);
    city.put(0, 2, 0, 's');
    city.put(0, 3, 0, 's');
    city.put(0, 4, 0, 's');
    city.put(0, 7, 0, 's');
    city.put(0, 0, 0, 's');
    city.put(0, 3, 1, 's');
    return city;
  }

  private static void sun() {
    Snowpalace city = wall(-60, -60, 9);
    city.go(10);
    Check.due("no sun before 10", city.mass(0, 4, 0), 300);
    city.go(1);
    Check.due("sun in the hour 10", city.mass(0, 4, 0), 298);
    Check.due("with a cell right, no sun", city.mass(0, 2, 0), 300);
    Check.due("nor in the middle", city.mass(0, 3, 0), 300);
    Check.due("at the edge", city.mass(0, 7, 0), 298);
    Check.due("at the left edge", city.mass(0, 0, 0), 298);
    Check.due("one above", city.mass(0, 3, 1), 298);
    city.go(4);
    Check.due("to the hour 14", city.mass(0, 4, 0), 290);
    city.go(33);
    Check.due("no longer", city.mass(0, 4, 0), 290);
    edges();
    Snowpalace cold = wall(-100, -100, 0);
    cold.go(24);
    Check.due("no sun at -100", cold.mass(0, 4, 0), 300);
    Snowpalace little = wall(-81, -81, 0);
    little.go(24);
    Check.due("19 by 20 is cut", little.mass(0, 4, 0), 300);
    Snowpalace more = wall(-80, -80, 0);
    more.go(24);
    Check.due("20 by 20 five times", more.mass(0, 4, 0), 295);
  }

  /** The rows do not go round: x 0 has nothing left of it, x 7 nothing right of it. */
  private static void edges() {
    Snowpalace city = new Snowpalace();
    city.weather(0, -60, -60, 10, 100);
    city.site();
    city.lorries(20);
    city.put(0, 0, 0, 's');
    city.put(0, 0, 1, 's');
    city.put(0, 1, 0, 's');
    city.put(0, 6, 0, 's');
    city.put(0, 7, 0, 's');
    city.go(15);
    Check.due("x 0 with a cell right has wind", city.mass(0, 0, 0), 270);
    Check.due("x 1 with a cell left has sun", city.mass(0, 1, 0), 290);
    Check.due("x 6 with a cell right has wind", city.mass(0, 6, 0), 270);
    Check.due("x 7 with a cell left has sun", city.mass(0, 7, 0), 290);
    Check.due("x 0 above has both", city.mass(0, 0, 1), 260);
  }

  private static void wind() {
    Snowpalace city = wall(-400, -400, 10);
    city.go(1);
    Check.due("wind from the left", city.mass(0, 2, 0), 298);
    Check.due("with a cell left, no wind", city.mass(0, 3, 0), 300);
    Check.due("nor the last", city.mass(0, 4, 0), 300);
    Check.due("at the left edge", city.mass(0, 0, 0), 298);
    Check.due("at the right edge", city.mass(0, 7, 0), 298);
    city.go(23);
    Check.due("each hour of the day", city.mass(0, 2, 0), 252);
    city.go(24);
    Check.due("none the day after", city.mass(0, 2, 0), 252);
    Snowpalace little = wall(-400, -400, 9);
    little.go(24);
    Check.due("none with 9", little.mass(0, 2, 0), 300);
    Snowpalace cut = wall(-400, -400, 14);
    cut.go(1);
    Check.due("14 by 5 is cut", cut.mass(0, 2, 0), 298);
    Snowpalace most = wall(-400, -400, 30);
    most.go(1);
    Check.due("30 by 5", most.mass(0, 2, 0), 294);
  }

  /** A cell that falls by sun still keeps the wind of that hour from its neighbour. */
  private static void sunAndWindLookedAtAhead() {
    Snowpalace city = new Snowpalace();
    city.weather(0, -100, -100, 0, 100);
    city.weather(1, 0, 0, 30, 100);
    city.site();
    city.lorries(20);
    city.put(0, 3, 0, 's');
    city.put(0, 4, 0, 's');
    city.carve(0, 3, 0, 199);
    city.go(24);
    city.go(1);
    Check.due("the left one is eaten up", city.at(0, 3, 0), '.');
    Check.due("the right one was behind it", city.mass(0, 4, 0), 300);
    city.go(1);
    Check.due("now it is not", city.mass(0, 4, 0), 294);
    city.go(9);
    Check.due("sun and wind both, 5 and 6", city.mass(0, 4, 0), 294 - 8 * 6 - 11);
  }

  private static void eatenUp() {
    Snowpalace city = new Snowpalace();
    city.weather(0, -400, -400, 10, 100);
    city.site();
    city.lorries(20);
    city.put(0, 1, 0, 's');
    city.put(0, 1, 1, 's');
    city.put(0, 5, 0, 's');
    city.carve(0, 1, 0, 197);
    city.carve(0, 5, 0, 190);
    city.go(1);
    Check.due("101 stands", city.mass(0, 1, 0), 101);
    Check.due("none fell", city.fell(0), 0);
    int money = city.money();
    city.go(1);
    Check.due("99 falls", city.at(0, 1, 0), '.');
    Check.due("and then what was above", city.at(0, 1, 1), '.');
    Check.due("two fell", city.fell(0), 2);
    Check.due("the upper one later", city.lastFell(0), 9);
    Check.due("they cost", city.money(), money - 400);
    city.go(2);
    Check.due("102 stands", city.mass(0, 5, 0), 102);
    city.go(1);
    Check.due("100 falls", city.at(0, 5, 0), '.');
    Check.due("three fell", city.fell(0), 3);
    Check.due("the last by wind", city.lastFell(0), 5);
  }

  private static void cover() {
    Snowpalace city = wall(-100, 0, 30);
    city.site();
    city.put(1, 0, 0, 's');
    int money = city.money();
    Check.due("cover", city.cover(0, true), false);
    Check.due("a cover costs", city.money(), money - 300);
    Check.due("cover again", city.cover(0, true), true);
    Check.due("which costs nothing", city.money(), money - 300);
    city.go(13);
    Check.due("no sun nor wind below", city.mass(0, 0, 0), 300);
    Check.due("the other site is not covered", city.mass(1, 0, 0) < 300, true);
    Check.due("uncover", city.cover(0, false), true);
    Check.due("which brings nothing", city.money(), money - 300);
    Check.due("uncover again", city.cover(0, false), false);
    city.go(1);
    Check.due("sun and wind again", city.mass(0, 0, 0), 300 - 6 - (-9 + 100) / 20);
    Check.due("cover a second time", city.cover(0, true), false);
    Check.due("which costs again", city.money(), money - 600);
    Check.fails("cover of site -1", city, Check.INDEX, () -> city.cover(-1, true));
    Check.fails("cover of site 2", city, Check.INDEX, () -> city.cover(2, true));
  }

  private static void wrongPlaces() {
    Snowpalace city = Check.mixedStock();
    city.put(0, 7, 0, 'c');
    int[][] wrong = {{-1, 0, 0}, {1, 0, 0}, {3, 0, 0}, {Integer.MAX_VALUE, 0, 0}, {0, -1, 0}, {0, 8, 0}, {0, 0, -1}, {0, 0, 6},
        {0, Integer.MIN_VALUE, 0}, {0, 0, Integer.MAX_VALUE}, {0, -8, 1}, {0, 15, -1}};
    for (int[] w : wrong) {
      Check.fails("at", city, Check.INDEX, () -> city.at(w[0], w[1], w[2]));
      Check.fails("mass", city, Check.INDEX, () -> city.mass(w[0], w[1], w[2]));
      Check.fails("load", city, Check.INDEX, () -> city.load(w[0], w[1], w[2]));
      Check.fails("strength", city, Check.INDEX, () -> city.strength(w[0], w[1], w[2]));
      Check.fails("creep", city, Check.INDEX, () -> city.creep(w[0], w[1], w[2]));
      Check.fails("age", city, Check.INDEX, () -> city.age(w[0], w[1], w[2]));
      Check.fails("isArch", city, Check.INDEX, () -> city.isArch(w[0], w[1], w[2]));
    }
    Check.fails("mass of none", city, Check.NO_ELEMENT, () -> city.mass(0, 6, 0));
    Check.fails("load of none", city, Check.NO_ELEMENT, () -> city.load(0, 6, 0));
    Check.fails("strength of none", city, Check.NO_ELEMENT, () -> city.strength(0, 6, 0));
    Check.fails("creep of none", city, Check.NO_ELEMENT, () -> city.creep(0, 6, 0));
    Check.fails("age of none", city, Check.NO_ELEMENT, () -> city.age(0, 6, 0));
    Check.fails("isArch of none", city, Check.NO_ELEMENT, () -> city.isArch(0, 7, 1));
    Check.fails("fell of site -1", city, Check.INDEX, () -> city.fell(-1));
    Check.fails("fell of site 1", city, Check.INDEX, () -> city.fell(1));
    Check.fails("lastFell of site -1", city, Check.INDEX, () -> city.lastFell(-1));
    Check.fails("lastFell of site 1", city, Check.INDEX, () -> city.lastFell(1));
  }
}
