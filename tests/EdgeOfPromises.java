/** What the whole is, and what each promise tells and returns, for what no other sentence's test quotes; by their numbers. */
final class EdgeOfPromises {
  private EdgeOfPromises() {
  }

  static void run() {
    threeWeeks();
    bearing();
    weather();
    warmths();
    clock();
    ice();
    cutting();
    yard();
    snow();
    puttingUp();
    cells();
    agesAndArches();
    falling();
    covers();
    lamps();
    crowds();
    slides();
    plans();
    carving();
    marks();
    taking();
    whole();
  }

  private static void threeWeeks() {
    Edge.sentence("A city of snow and ice for three weeks: ice that grows on a river and is cut in blocks, snow by lorries and machines, "
        + "walls and arches that bear, creep and are eaten by sun and wind, lamps that shine through ice, teams that carve and are judged "
        + "as it stands, slides, crowds, and taking down.");
    Snowpalace city = new Snowpalace();
    city.weather(0, -400, -400, 0, 100);
    city.weather(1, -100, -100, 0, 100);
    city.weather(2, -90, -60, 15, 100);
    city.machine(true);
    city.go(24);
    Edge.due("ice of a day", city.ice(2) > 300, true);
    Edge.due("blocks", city.cut(2, 20) * 100 + city.yard(true), 2020);
    Edge.due("snow by machine and lorries", city.lorries(2), 58);
    city.site();
    Check.column(city, 0, 2, 'c');
    Check.column(city, 2, 2, 's');
    city.put(0, 1, 1, 'c');
    Edge.due("an arch between walls", city.isArch(0, 1, 1), true);
    Edge.due("that bear it", city.load(0, 0, 0) * 10000 + city.load(0, 2, 0), 12500850);
    city.lamp(0, 1, 1, true);
    Edge.due("a lamp through ice", city.lightBits(0, 0, 1), Float.floatToIntBits(0.75f * 0.75f));
    city.go(24);
    Edge.due("they creep", city.creep(0, 0, 0) > 0 && city.creep(0, 1, 1) > 0, true);
    city.go(24);
    Edge.due("eaten by wind", city.mass(0, 0, 0), 500 - 24 * 3 - sun(city));
    Edge.due("a team carves", city.carve(0, 0, 1, 10) * 100 + city.hours(0), 59);
    Edge.due("and is judged", city.judge(0), 43.0 / 48.0);
    Edge.due("a crowd", city.visit(0, 50), 50);
    Edge.due("a slide", city.squareBits(2, 5, false), Double.doubleToLongBits(2.0 * 9.81 * (2.0 - 0.05 * 5.0)));
    Edge.due("taken down", city.take(0, 1, 1) > 0, true);
    Edge.due("to the end of three weeks", Edge.after(() -> city, 504 - 72).now(), 3 * 7 * 24);
  }

  /** In the day 2 the sun eats at the ends of the walls; the first one has nothing right of it on the ground. */
  private static int sun(Snowpalace city) {
    int sun = 0;
    for (int hour = 48 + 10; hour <= 48 + 14; hour++) {
      sun += (city.warmth(hour) + 100) / 20;
    }
    return sun;
  }

  private static void bearing() {
    Edge.sentence("At each hour what stands bears whom it carries; what falls, falls at that hour.");
    int open = 0;
    int fallen = 0;
    for (int hour = 0; hour < 24; hour++) {
      Snowpalace city = Edge.after(EdgeOfPromises::warmingColumns, hour);
      boolean isOpen = city.isOpen(0);
      open += isOpen ? 1 : 0;
      boolean isWeak = false;
      for (int x = 0; x < 8; x++) {
        if (city.at(0, x, 0) != '.') {
          isWeak = isWeak || city.load(0, x, 0) > city.strength(0, x, 0);
          bearsJust(city, x, isOpen);
        }
      }
      int before = city.fell(0);
      city.go(1);
      Edge.due("falling in the hour " + hour, city.fell(0) > before, isWeak);
      fallen += isWeak ? 1 : 0;
    }
    Edge.due("hours in which it was open", open, 17);
    Edge.due("hours in which some fell", fallen, 3);
  }

  /** Columns of one to four cells of snow, under a cover, on a day that gets ever warmer to noon. */
  private static Snowpalace warmingColumns() {
    Snowpalace city = Edge.snowy();
    city.weather(0, -200, 180, 0, 100);
    city.cover(0, true);
    for (int x = 0; x < 8; x++) {
      Check.column(city, x, 1 + x / 2, 's');
    }
    return city;
  }

  /** The lowest cell of a column bears all whom the column carries, and if it is open no one more. */
  private static void bearsJust(Snowpalace city, int x, boolean isOpen) {
    int people = city.carries(0, x);
    int room = city.strength(0, x, 0) - 2 * city.load(0, x, 0);
    Edge.due("it carries as many as it bears", people, isOpen ? room / 140 : 0);
  }

  private static void weather() {
    Edge.promise(2, "Tells the weather of a day.");
    Snowpalace city = Edge.always(-150);
    city.weather(4, -240, -120, 30, 50);
    Edge.due("its low", city.warmth(96), -240);
    Edge.due("its high", city.warmth(108), -120);
    Edge.due("its humidity", city.wet(96), -265);
    Edge.due("the day ahead of it", city.warmth(95), -150);
    Edge.due("the day behind it", city.warmth(120), -150);
    city.site();
    city.lorries(1);
    city.put(0, 0, 0, 's');
    Edge.after(() -> city, 96);
    Edge.due("mass ahead of its wind", city.mass(0, 0, 0), 300);
    city.go(1);
    Edge.due("mass in its wind", city.mass(0, 0, 0), 300 - 6);
  }

  private static void warmths() {
    Edge.promise(3, "Returns the warmth of an hour.");
    Snowpalace city = new Snowpalace();
    int[] ofDay = {-150, -142, -134, -125, -117, -109, -100, -92, -84, -75, -67, -59, -50};
    for (int hour = 0; hour <= 12; hour++) {
      Edge.due("hour " + hour, city.warmth(hour), ofDay[hour]);
      Edge.due("hour " + (24 - hour), city.warmth(24 - hour), ofDay[hour]);
      Edge.due("an hour of the last day", city.warmth(480 + hour), ofDay[hour]);
    }
    Edge.promise(3, "Returns tenths of a degree.");
    city.weather(3, -123, 200, 0, 0);
    Edge.due("12.3 degrees below 0", city.warmth(72), -123);
    Edge.due("20 degrees", city.warmth(84), 200);
    Edge.promise(4, "Returns the wet warmth of an hour.");
    for (int hour = 0; hour <= 12; hour++) {
      Edge.due("hour " + hour, city.wet(hour), ofDay[hour] - 10);
    }
    Edge.promise(4, "Returns tenths of a degree.");
    Edge.due("5 degrees less in dry air", city.wet(72), -173);
    Edge.due("15 degrees", city.wet(84), 150);
  }

  private static void clock() {
    Edge.promise(5, "Lets hours go by.");
    Snowpalace city = Edge.always(-100);
    city.go(5);
    Edge.due("ice of 5 hours", city.ice(0), 10 + 10 + 9 + 9 + 9);
    Edge.promise(5, "Returns the clock then.");
    Edge.due("5 and 30", city.go(30), 35);
    Edge.due("and 48", city.go(48), 83);
    Edge.promise(6, "Returns the clock. Returns the hours.");
    Edge.due("as go returned it", city.now(), 83);
    Edge.due("looking lets none go by", city.now(), 83);
  }

  private static void ice() {
    Edge.promise(7, "Returns how thick the ice of a field is.");
    Snowpalace city = Edge.always(-99);
    city.weather(0, -100, -100, 0, 100);
    int thick = 0;
    for (int hour = 0; hour < 24; hour++) {
      city.go(1);
      thick += 100 / (10 + thick / 20);
      for (int field = 0; field < 4; field++) {
        Edge.due("field " + field, city.ice(field), thick);
      }
    }
    Edge.promise(7, "Returns millimetres.");
    Edge.due("10 of the first hour at -100", Edge.after(() -> Edge.always(-100), 1).ice(1), 10);
    Edge.promise(8, "Returns how much of it is clear.");
    for (int field = 0; field < 4; field++) {
      Edge.due("all of it", city.clear(field), thick);
    }
    city.go(24);
    Edge.due("more ice", city.ice(3) > thick, true);
    Edge.promise(8, "Returns millimetres.");
    for (int field = 0; field < 4; field++) {
      Edge.due("of which no more is clear", city.clear(field), thick);
    }
    Edge.promise(9, "Returns whether a field bears lorries.");
    for (int field = 0; field < 4; field++) {
      Edge.due("too thin", Edge.after(() -> Edge.always(-400), 7).bears(field), false);
    }
    Edge.promise(9, "Returns true if so.");
    for (int field = 0; field < 4; field++) {
      Edge.due("thick enough", Edge.after(() -> Edge.always(-400), 13).bears(field), true);
    }
  }

  private static void cutting() {
    Snowpalace city = Edge.after(() -> Edge.always(-400), 13);
    Edge.promise(10, "Returns how many places of the field are left.");
    Edge.due("7 of 40", city.cut(1, 7), 33);
    Edge.due("then 13", city.cut(1, 13), 20);
    Edge.due("of another field", city.cut(0, 1), 39);
    Edge.due("the last 20", city.cut(1, 20), 0);
    Edge.promise(10, "Cuts blocks.");
    Edge.due("as many blocks", city.yard(true), 41);
    Edge.due("the ice stays as thick", city.ice(1), city.ice(2));
  }

  private static void yard() {
    Edge.promise(11, "- `isClear`: whether clear ones are meant, otherwise the others");
    Snowpalace city = Check.mixedStock();
    city.put(0, 0, 0, 'c');
    Edge.due("clear ones", city.yard(true), 79);
    Edge.due("the others", city.yard(false), 80);
    Edge.promise(11, "Returns how many.");
    city.put(0, 1, 0, 'i');
    city.put(0, 2, 0, 'i');
    Edge.due("still as many clear ones", city.yard(true), 79);
    Edge.due("two less of the others", city.yard(false), 78);
  }

  private static void snow() {
    Edge.promise(12, "Lets lorries bring snow.");
    Snowpalace city = new Snowpalace();
    city.lorries(3);
    Edge.due("15", city.snow(), 15);
    Edge.promise(12, "Returns how much snow is stored.");
    Edge.due("15 and 10", city.lorries(2), 25);
    Edge.promise(13, "- `is`: whether it is on");
    city.go(1);
    Edge.due("as it is off", city.snow(), 25);
    city.machine(true);
    city.go(1);
    Edge.due("as it is on", city.snow(), 27);
    Edge.promise(13, "Returns whether it was.");
    Edge.due("on", city.machine(false), true);
    Edge.due("off", city.machine(false), false);
    city.go(1);
    Edge.promise(14, "Returns how much snow is stored. Returns how much.");
    Edge.due("27", city.snow(), 27);
    city.site();
    city.put(0, 0, 0, 's');
    Edge.due("less what a cell is made of", city.snow(), 23);
  }

  private static void puttingUp() {
    Edge.promise(15, "Adds a site.");
    Snowpalace city = Check.mixedStock();
    Edge.due("none ahead of that", Check.answer(() -> city.count(1)), Check.INDEX.getName());
    Edge.promise(15, "Returns its number.");
    Edge.due("number", city.site(), 1);
    Edge.due("it is there", city.count(1), 0);
    Edge.promise(16, "Puts a cell.");
    city.put(1, 6, 0, 'c');
    Edge.due("there", city.at(1, 6, 0), 'c');
    Edge.due("nowhere else", city.count(0) * 10 + city.count(1), 1);
    Edge.promise(16, "- `kind`: s, i or c");
    city.put(1, 4, 0, 's');
    city.put(1, 5, 0, 'i');
    Edge.due("kinds", "" + city.at(1, 4, 0) + city.at(1, 5, 0) + city.at(1, 6, 0), "sic");
    Edge.promise(16, "Returns how many cells the site has then, behind what fell.");
    Edge.due("four", city.put(1, 0, 0, 's'), 4);
    Edge.due("one of another site", city.put(0, 0, 0, 's'), 1);
    city.weather(6, 200, 200, 0, 100);
    Edge.due("three of snow fell, itself too", city.put(1, 1, 0, 's'), 2);
    Edge.due("in the other site none", city.count(0), 1);
    Edge.promise(17, "Returns the kind of a cell.");
    Edge.due("kinds then", "" + city.at(1, 0, 0) + city.at(1, 1, 0) + city.at(1, 4, 0) + city.at(1, 5, 0) + city.at(1, 6, 0), "...ic");
  }

  /** An arch of clear ice, between snow left of it and a block right of it that both stand on blocks. */
  private static Snowpalace gate() {
    Snowpalace city = Check.mixedStock();
    Check.column(city, 3, 1, 'i');
    Check.column(city, 5, 2, 'i');
    city.put(0, 3, 1, 's');
    city.put(0, 4, 1, 'c');
    city.carve(0, 4, 1, 7);
    return city;
  }

  private static void cells() {
    Snowpalace city = gate();
    Edge.promise(18, "Returns the mass of a cell.");
    Edge.due("carved", city.mass(0, 4, 1), 493);
    Edge.promise(18, "Returns the mass.");
    Edge.due("the mass alone of what bears", city.mass(0, 3, 0), 450);
    Edge.promise(19, "Returns the load of a cell.");
    Edge.due("of the arch", city.load(0, 4, 1), 493);
    Edge.due("left of it", city.load(0, 3, 1), 300 + 246);
    Edge.due("right of it", city.load(0, 5, 1), 450 + 247);
    Edge.promise(19, "Returns the load.");
    Edge.due("on the ground, left", city.load(0, 3, 0), 450 + 300 + 246);
    Edge.due("on the ground, right", city.load(0, 5, 0), 450 + 450 + 247);
    Edge.promise(20, "Returns the strength of a cell in this hour.");
    city.weather(6, -40, 8, 0, 100);
    Edge.due("in the hour 144, of -40", city.strength(0, 3, 1), 2500 - 100);
    city.go(2);
    Edge.promise(20, "Returns the strength.");
    Edge.due("in the hour 146, of -32", city.strength(0, 3, 1), 2500 + 20 - 180);
    Edge.promise(21, "Returns how far a cell crept.");
    Edge.due("996 times 260, 996 times 264", city.creep(0, 3, 0), 2 + 2);
    Edge.due("546 times 260, 546 times 264", city.creep(0, 3, 1), 1 + 1);
    Edge.promise(21, "Returns the creep.");
    Edge.due("1147 times 260, 1147 times 264", city.creep(0, 5, 0), 2 + 3);
  }

  private static void agesAndArches() {
    Snowpalace city = gate();
    city.go(2);
    city.put(0, 7, 0, 's');
    city.go(3);
    Edge.promise(22, "Returns the age of a cell.");
    Edge.due("put later", city.age(0, 7, 0), 3);
    Edge.promise(22, "Returns the hours.");
    Edge.due("put at first", city.age(0, 4, 1), 5);
    Edge.promise(23, "Returns whether a cell is an arch.");
    Edge.due("its sides are none", city.isArch(0, 3, 1) || city.isArch(0, 5, 1), false);
    Edge.due("nor is what is on the ground", city.isArch(0, 3, 0) || city.isArch(0, 5, 0) || city.isArch(0, 7, 0), false);
    Edge.promise(23, "Returns true if so.");
    Edge.due("it is", city.isArch(0, 4, 1), true);
    city.put(0, 4, 0, 's');
    Edge.due("not with a cell below it", city.isArch(0, 4, 1), false);
    city.take(0, 4, 0);
    Edge.due("again without", city.isArch(0, 4, 1), true);
  }

  private static void falling() {
    Snowpalace city = gate();
    city.site();
    Edge.promise(24, "Returns how many.");
    Edge.due("none", city.fell(0), 0);
    city.carve(0, 5, 0, 0);
    Edge.due("the right side and the arch", city.fell(0), 2);
    Edge.due("in the other site none", city.fell(1), 0);
    city.carve(0, 3, 0, 0);
    Edge.due("and the left side", city.fell(0), 3);
    Edge.promise(25, "Returns 8 times y plus x.");
    Edge.due("3, 1", city.lastFell(0), 8 * 1 + 3);
  }

  private static void covers() {
    Snowpalace city = Edge.snowy();
    city.weather(0, -200, -200, 10, 100);
    city.put(0, 0, 0, 's');
    Edge.promise(26, "- `is`: whether it has a cover then");
    city.cover(0, true);
    city.go(1);
    Edge.due("with one", city.mass(0, 0, 0), 300);
    city.cover(0, false);
    city.go(1);
    Edge.due("without one", city.mass(0, 0, 0), 298);
    Edge.promise(26, "Returns whether it had.");
    Edge.due("none", city.cover(0, true), false);
    Edge.due("one", city.cover(0, true), true);
    city.site();
    Edge.due("another site none", city.cover(1, false), false);
  }

  private static void lamps() {
    Snowpalace city = gate();
    Edge.promise(27, "- `is`: whether there is one then");
    city.lamp(0, 5, 1, true);
    Edge.due("with one", city.lightBits(0, 6, 1), Float.floatToIntBits(0.5f));
    city.lamp(0, 5, 1, false);
    Edge.due("without one", city.lightBits(0, 6, 1), Float.floatToIntBits(0.0f));
    Edge.promise(27, "Returns whether there was.");
    Edge.due("none", city.lamp(0, 5, 1, true), false);
    Edge.due("one", city.lamp(0, 5, 1, true), true);
    Edge.due("in another cell none", city.lamp(0, 4, 1, false), false);
    Edge.promise(28, "Returns the light at a place.");
    Edge.due("through the arch", city.lightBits(0, 4, 1), Float.floatToIntBits(0.5f * 0.75f));
    Edge.due("through the snow behind it", city.lightBits(0, 0, 1), Float.floatToIntBits(0.5f * 0.75f * 0.25f));
    Edge.promise(28, "Returns the bits of the float, by its standard form.");
    Edge.due("a half", city.lightBits(0, 7, 1), 0x3F000000);
    Edge.due("0", city.lightBits(0, 7, 0), 0);
    Edge.due("three eighths", city.lightBits(0, 4, 1), 0x3EC00000);
  }

  private static void crowds() {
    Snowpalace city = Edge.snowy();
    Edge.promise(29, "Returns whether a site is open.");
    Edge.due("without cells", city.isOpen(0), false);
    city.put(0, 2, 0, 's');
    Edge.promise(29, "Returns true if so.");
    Edge.due("with one", city.isOpen(0), true);
    Edge.promise(30, "Returns how many people a column carries.");
    city.put(0, 2, 1, 's');
    city.put(0, 4, 0, 's');
    Edge.due("1250 less 600, by 70", city.carries(0, 2), 9);
    Edge.promise(30, "Returns how many.");
    Edge.due("1250 less 300, by 70", city.carries(0, 4), 13);
    Edge.promise(31, "Lets visitors come.");
    int money = city.money();
    city.visit(0, 7);
    Edge.due("what they bring", city.money(), money + 35);
    Edge.promise(31, "Returns how many came to the site so far.");
    Edge.due("7 and 8", city.visit(0, 8), 15);
    city.site();
    city.put(1, 0, 0, 's');
    Edge.due("to the other site", city.visit(1, 9), 9);
    Edge.promise(31, "Throws `IllegalArgumentException` if it is out of range");
    Edge.refused("visit", Check.ARGUMENT, Edge::lively, each -> each.visit(0, 501));
  }

  private static void slides() {
    Edge.promise(32, "Returns the square of the speed of a slide in this hour.");
    Snowpalace city = Edge.always(0);
    city.weather(1, 10, 10, 0, 100);
    long cold = city.squareBits(10, 20, false);
    city.go(24);
    Edge.due("slower in a warm hour", Double.longBitsToDouble(city.squareBits(10, 20, false)) < Double.longBitsToDouble(cold), true);
    city.go(24);
    Edge.due("and again as ahead of it", city.squareBits(10, 20, false), cold);
    Edge.promise(32, "- `mat`: whether there is a mat");
    Edge.due("with one", city.squareBits(10, 20, true), Double.doubleToLongBits(2.0 * 9.81 * (10.0 - 0.1 * 20.0)));
    Edge.due("without one", city.squareBits(10, 20, false), Double.doubleToLongBits(2.0 * 9.81 * (10.0 - 0.05 * 20.0)));
    Edge.promise(32, "Returns the bits of the double, by its standard form.");
    Edge.due("0.0", city.squareBits(1, 60, true), 0L);
    Edge.due("19.62 times 9", city.squareBits(10, 20, false), 0x4066128F5C28F5C3L);
  }

  private static void plans() {
    Edge.promise(33, "Tells whether a place is to have a cell.");
    Snowpalace city = Edge.snowy();
    city.put(0, 1, 0, 's');
    Edge.due("one that is not to be", city.judge(0), 47.0 / 48.0);
    city.plan(0, 1, 0, true);
    Edge.due("it is to be", city.judge(0), 1.0);
    Edge.promise(33, "- `is`: whether so");
    city.plan(0, 1, 0, false);
    Edge.due("it is not to be again", city.judge(0), 47.0 / 48.0);
    Edge.promise(33, "Returns how many places are to have one.");
    Edge.due("one", city.plan(0, 5, 5, true), 1);
    Edge.due("two", city.plan(0, 6, 5, true), 2);
    Edge.due("one again", city.plan(0, 5, 5, false), 1);
  }

  private static void carving() {
    Edge.promise(34, "Carves a cell.");
    Snowpalace city = gate();
    city.carve(0, 5, 1, 50);
    Edge.due("its mass", city.mass(0, 5, 1), 400);
    Edge.due("its load", city.load(0, 5, 1), 400 + 247);
    Edge.due("no other's mass", city.mass(0, 3, 1) + city.mass(0, 5, 0), 750);
    Edge.promise(35, "Returns how many hours are left for carving.");
    Edge.due("two were carved", city.hours(0), 58);
    Edge.promise(35, "Returns the hours.");
    city.carve(0, 4, 1, 0);
    Edge.due("three were carved", city.hours(0), 57);
  }

  private static void marks() {
    Edge.promise(36, "Judges a site.");
    Snowpalace city = gate();
    city.site();
    Edge.due("not yet", Check.answer(() -> city.mark(0)), Check.NO_ELEMENT.getName());
    Edge.promise(36, "Returns the mark.");
    Edge.due("5 cells too many", city.judge(0), 43.0 / 48.0);
    Edge.due("another site", city.judge(1), 1.0);
    Edge.promise(37, "Returns the mark of a site.");
    Edge.due("the first", city.mark(0), 43.0 / 48.0);
    Edge.due("the other", city.mark(1), 1.0);
    Edge.promise(37, "Returns the mark.");
    city.carve(0, 5, 0, 0);
    Edge.due("it stays", city.mark(0), 43.0 / 48.0);
    Edge.due("judged again", city.judge(0), 46.0 / 48.0 - 0.05 * 2.0);
    Edge.due("the mark then", city.mark(0), 46.0 / 48.0 - 0.05 * 2.0);
  }

  private static void taking() {
    Edge.promise(38, "Takes a cell down.");
    Snowpalace city = gate();
    int taken = city.take(0, 4, 1);
    Edge.due("it is away", city.at(0, 4, 1), '.');
    Edge.due("all else stands", city.count(0), 4);
    Edge.promise(38, "Returns its mass.");
    Edge.due("carved", taken, 493);
    Edge.due("not its load", city.take(0, 3, 1), 300);
  }

  private static void whole() {
    Edge.promise(39, "Returns the money. Returns the money.");
    Snowpalace city = gate();
    int money = city.money();
    city.lorries(2);
    Edge.due("two lorries later", city.money(), money - 200);
    Edge.promise(40, "Returns how many.");
    Edge.due("cells of the gate", city.count(0), 5);
    Edge.promise(41, "Returns the share of sites that are open.");
    Edge.due("all", city.openShare(), 1.0f);
    city.site();
    Edge.due("a half", city.openShare(), 0.5f);
    Edge.promise(42, "Returns the mean creep of cells.");
    Edge.due("none yet", city.meanCreep(0), 0.0);
    city.go(1);
    int sum = city.creep(0, 3, 0) + city.creep(0, 3, 1) + city.creep(0, 4, 1) + city.creep(0, 5, 0) + city.creep(0, 5, 1);
    Edge.due("of five", city.meanCreep(0), sum / 5.0);
    Edge.due("they crept", sum > 0, true);
    Edge.promise(43, "Returns a sum over the city.");
    long before = city.checksum();
    city.lorries(1);
    Edge.due("with one more lorry it is another", city.checksum() == before, false);
    Edge.promise(44, "Returns whether all is sound:");
    Edge.due("all", city.isSound(), true);
    Edge.promise(44, "Returns true if so.");
    Edge.due("of a new one", new Snowpalace().isSound(), true);
  }
}
