/** Sentences of "The river, snow" and of promises 7 to 14. */
final class EdgeOfRiver {
  private EdgeOfRiver() {
  }

  static void run() {
    fields();
    growth();
    slowerGrowth();
    clearGrowth();
    neitherGrowthNorThaw();
    thaw();
    clearThaw();
    bearing();
    bearingPlaces();
    cuttingIce();
    cuttingPlaces();
    cutRefused();
    yardRoom();
    clearBlocks();
    snowRoom();
    lorries();
    machine();
    machineRoom();
  }

  private static void fields() {
    Edge.sentence("There are the fields 0 to 3 of ice, without ice at first, each with 40 places.");
    Edge.range("ice", "field", Check.ARGUMENT, 0, 3, Edge::lively, (city, field) -> city.ice(field));
    Edge.range("clear", "field", Check.ARGUMENT, 0, 3, Edge::lively, (city, field) -> city.clear(field));
    Edge.range("bears", "field", Check.ARGUMENT, 0, 3, Edge::lively, (city, field) -> city.bears(field));
    Edge.range("cut", "field", Check.ARGUMENT, 0, 3, EdgeOfRiver::thick, (city, field) -> city.cut(field, 1));
    Snowpalace city = thick();
    for (int field = 0; field < 4; field++) {
      Edge.due("places of field " + field, city.cut(field, 1), 39);
    }
  }

  /** At hour 13, of 309 millimetres of clear ice. */
  private static Snowpalace thick() {
    return Edge.after(() -> Edge.always(-400), 13);
  }

  private static int iceAfter(int warmth, int hours) {
    return Edge.after(() -> Edge.always(warmth), hours).ice(3);
  }

  private static void growth() {
    Edge.sentence("In an hour below 0 the ice grows by the warmth without its sign, divided by a number, cut, in millimetres, which is "
        + "10 and, cut, a twentieth of what is there");
    Edge.due("9 by 10 is cut", iceAfter(-9, 48), 0);
    Edge.due("10 by 10", iceAfter(-10, 1), 1);
    Edge.due("19 by 10 is cut", iceAfter(-19, 1), 1);
    Edge.due("the strongest", iceAfter(-400, 1), 40);
  }

  private static void slowerGrowth() {
    Edge.sentence("which is 10 and, cut, a twentieth of what is there");
    Edge.due("19 is there", iceAfter(-190, 1), 19);
    Edge.due("190 by 10", iceAfter(-190, 2), 38);
    Edge.due("20 are there", iceAfter(-200, 1), 20);
    Edge.due("200 by 11", iceAfter(-200, 2), 38);
  }

  private static void clearGrowth() {
    Edge.sentence("what grows at -100 or below is clear.");
    Edge.due("-100", Edge.after(() -> Edge.always(-100), 2).clear(0), 20);
    Edge.due("-101", Edge.after(() -> Edge.always(-101), 2).clear(0), 20);
    Snowpalace above = Edge.after(() -> Edge.always(-99), 2);
    Edge.due("-99", above.clear(0), 0);
    Edge.due("but it grows", above.ice(0), 18);
  }

  private static void neitherGrowthNorThaw() {
    Edge.sentence("In an hour above 0 a tenth of the warmth, cut, goes");
    int[][] cases = {{-9, 20}, {-1, 20}, {0, 20}, {1, 20}, {9, 20}, {10, 19}, {19, 19}, {20, 18}};
    for (int[] c : cases) {
      Snowpalace city = thin(c[0]);
      city.go(1);
      Edge.due("20 in an hour of " + c[0], city.ice(0), c[1]);
    }
  }

  /** At hour 24, of 20 millimetres of other ice; what follows has the given warmth. */
  private static Snowpalace thin(int warmth) {
    Snowpalace city = new Snowpalace();
    city.weather(0, -10, -10, 0, 100);
    city.weather(1, warmth, warmth, 0, 100);
    city.go(24);
    return city;
  }

  private static void thaw() {
    Edge.sentence("a tenth of the warmth, cut, goes");
    Snowpalace one = thin(199);
    one.go(1);
    Edge.due("all but one", one.ice(0), 1);
    one.go(1);
    Edge.due("no more than is there", one.ice(0), 0);
    one.go(1);
    Edge.due("nothing of nothing", one.ice(0), 0);
    Snowpalace all = thin(200);
    all.go(1);
    Edge.due("just all", all.ice(0), 0);
    Edge.due("clear ice of nothing", all.clear(0), 0);
    Edge.due("none at first", iceAfter(200, 1), 0);
  }

  private static void clearThaw() {
    Edge.sentence("and of clear ice as much as is left in all at most.");
    Snowpalace city = new Snowpalace();
    city.weather(0, -10, -10, 0, 100);
    city.weather(1, -100, -100, 0, 100);
    city.weather(2, 10, 10, 0, 100);
    city.go(48);
    int clear = city.clear(0);
    Edge.due("all ice", city.ice(0), clear + 20);
    city.go(19);
    Edge.due("one more than is clear", city.ice(0), clear + 1);
    Edge.due("so all clear ice", city.clear(0), clear);
    city.go(1);
    Edge.due("just as much as is clear", city.ice(0), clear);
    Edge.due("still all clear ice", city.clear(0), clear);
    city.go(1);
    Edge.due("one less", city.ice(0), clear - 1);
    Edge.due("so clear ice goes too", city.clear(0), clear - 1);
    Edge.due("sound", city.isSound(), true);
  }

  private static void bearing() {
    Edge.sentence("A field bears lorries from 250 millimetres on");
    Edge.due("nothing", new Snowpalace().bears(0), false);
    Snowpalace below = Edge.after(() -> Edge.always(-383), 10);
    Edge.due("ice", below.ice(0), 249);
    Edge.due("249", below.bears(0), false);
    Snowpalace just = Edge.after(() -> Edge.always(-384), 10);
    Edge.due("ice", just.ice(0), 250);
    Edge.due("250", just.bears(0), true);
  }

  private static void bearingPlaces() {
    Edge.sentence("as long as 20 places are left.");
    Snowpalace city = thick();
    city.cut(2, 19);
    Edge.due("21 left", city.bears(2), true);
    city.cut(2, 1);
    Edge.due("20 left", city.bears(2), true);
    city.cut(2, 1);
    Edge.due("19 left", city.bears(2), false);
    Edge.due("another field", city.bears(1), true);
    Snowpalace empty = thick();
    empty.cut(2, 20);
    empty.cut(2, 20);
    Edge.due("none left", empty.bears(2), false);
  }

  private static void cuttingIce() {
    Edge.sentence("Blocks are cut of ice of 300 or more");
    Snowpalace other = Edge.after(() -> Edge.always(-385), 13);
    Edge.due("ice", other.ice(0), 300);
    Edge.due("300", other.cut(0, 1), 39);
    Edge.due("ice", Edge.after(() -> Edge.always(-384), 13).ice(0), 299);
    Edge.refused("cut", Check.UNSUPPORTED, () -> Edge.after(() -> Edge.always(-384), 13), city -> city.cut(0, 1));
    Edge.refused("cut", Check.UNSUPPORTED, Snowpalace::new, city -> city.cut(3, 20));
  }

  private static void cuttingPlaces() {
    Edge.sentence("one from each place, into the yard");
    Edge.range("cut", "many", Check.ARGUMENT, 1, 20, EdgeOfRiver::thick, (city, many) -> city.cut(3, many));
    Edge.due("one", thick().cut(0, 1), 39);
    Snowpalace city = thick();
    Edge.due("20 of 40", city.cut(0, 20), 20);
    Edge.due("20 of 20", city.cut(0, 20), 0);
    Edge.due("yard", city.yard(true), 40);
    Edge.due("a block costs 20", city.money(), -800);
    Edge.due("the ice stays as thick", city.ice(0), 309);
    Snowpalace odd = thick();
    odd.cut(0, 19);
    Edge.due("20 of 21", odd.cut(0, 20), 1);
  }

  private static Snowpalace cutTo(int left) {
    Snowpalace city = thick();
    city.cut(1, 20);
    if (left < 20) {
      city.cut(1, 20 - left);
    }
    return city;
  }

  private static void cutRefused() {
    Edge.sentence("Throws `UnsupportedOperationException` if the ice is too thin, so many places are not left, or the field does not bear "
        + "lorries");
    Edge.refused("cut", Check.UNSUPPORTED, () -> cutTo(0), city -> city.cut(1, 1));
    Edge.refused("cut", Check.UNSUPPORTED, () -> cutTo(1), city -> city.cut(1, 2));
    Edge.refused("cut", Check.UNSUPPORTED, () -> cutTo(19), city -> city.cut(1, 1));
    Edge.refused("cut", Check.UNSUPPORTED, () -> cutTo(19), city -> city.cut(1, 19));
    Edge.refused("cut", Check.UNSUPPORTED, () -> cutTo(19), city -> city.cut(1, 20));
    Edge.allowed("cut at 20 places", () -> cutTo(20), city -> city.cut(1, 20));
    Edge.first("cut", Check.ARGUMENT, Check.UNSUPPORTED, Snowpalace::new, city -> city.cut(0, 21));
    Edge.refused("cut", Check.ARGUMENT, () -> cutTo(0), city -> city.cut(1, 0));
    Edge.refused("cut", Check.ARGUMENT, Snowpalace::new, city -> city.cut(4, 1));
  }

  private static void yardRoom() {
    Edge.sentence("into the yard, which holds 200");
    Snowpalace city = thick();
    for (int field = 0; field < 4; field++) {
      city.cut(field, 20);
      city.cut(field, 20);
    }
    Edge.due("all that the fields give fit", city.yard(true), 160);
    String why = "four fields of 40 places give 160 blocks, which the yard always has room for";
    Edge.never("cut", Check.STATE, why);
    Edge.neverBoth("cut", Check.ARGUMENT, Check.STATE, why);
    Edge.neverBoth("cut", Check.UNSUPPORTED, Check.STATE, why);
    Edge.sentence("Returns how many blocks the yard has.");
    Edge.due("no others", city.yard(false), 0);
    Edge.due("none at first", new Snowpalace().yard(true) + new Snowpalace().yard(false), 0);
  }

  private static Snowpalace mixedIce(int colder, int hours) {
    Snowpalace city = Edge.always(colder);
    city.weather(0, -99, -99, 0, 100);
    city.go(24);
    city.go(hours - 24);
    city.cut(0, 2);
    return city;
  }

  private static void clearBlocks() {
    Edge.sentence("they are clear if the clear ice times 3 is at least twice all ice.");
    Snowpalace just = mixedIce(-399, 46);
    Edge.due("all ice", just.ice(0), 495);
    Edge.due("clear ice", just.clear(0), 330);
    Edge.due("990 and 990: clear", just.yard(true), 2);
    Edge.due("990 and 990: no others", just.yard(false), 0);
    Snowpalace below = mixedIce(-398, 46);
    Edge.due("all ice", below.ice(0), 494);
    Edge.due("clear ice", below.clear(0), 329);
    Edge.due("987 and 988: not clear", below.yard(true), 0);
    Edge.due("987 and 988: others", below.yard(false), 2);
  }

  private static Snowpalace stored(int lorries) {
    Snowpalace city = new Snowpalace();
    for (int left = lorries; left > 0; left -= 20) {
      city.lorries(Math.min(20, left));
    }
    return city;
  }

  private static void snowRoom() {
    Edge.sentence("The snow that is stored is 500 at most, none at first; a lorry brings 5");
    Edge.due("none", new Snowpalace().snow(), 0);
    Edge.due("one lorry", stored(0).lorries(1), 5);
    Snowpalace city = stored(99);
    Edge.due("495", city.snow(), 495);
    Edge.due("500 fit", city.lorries(1), 500);
    Edge.sentence("What is beyond 500 is lost.");
    Edge.due("all of a lorry", city.lorries(1), 500);
    Edge.due("all of many", city.lorries(20), 500);
    city.site();
    city.put(0, 0, 0, 's');
    Edge.due("496", city.snow(), 496);
    Edge.due("one of a lorry", city.lorries(1), 500);
    Edge.due("what is lost costs too", city.money(), -122 * 100 - 10);
    city.put(0, 1, 0, 's');
    Edge.due("nor was it kept", city.snow(), 496);
  }

  private static void lorries() {
    Edge.sentence("`many`: 1 to 20");
    Edge.range("lorries", "many", Check.ARGUMENT, 1, 20, Edge::lively, (city, many) -> city.lorries(many));
    Edge.due("1", new Snowpalace().lorries(1), 5);
    Edge.due("20", new Snowpalace().lorries(20), 100);
  }

  private static int madeAt(int warmth, int humidity) {
    Snowpalace city = new Snowpalace();
    city.weather(0, warmth, warmth, 0, humidity);
    city.machine(true);
    city.go(1);
    return city.snow();
  }

  private static void machine() {
    Edge.sentence("a machine that is on makes 2 in each hour whose wet warmth is -20 or below.");
    Edge.due("-20", madeAt(-20, 100), 2);
    Edge.due("-19", madeAt(-19, 100), 0);
    Edge.due("-21", madeAt(-21, 100), 2);
    Edge.due("30 in dry air, wet -20", madeAt(30, 0), 2);
    Edge.due("31 in dry air, wet -19", madeAt(31, 0), 0);
    Edge.due("0 with 61, wet -19", madeAt(0, 61), 0);
    Edge.due("0 with 60, wet -20", madeAt(0, 60), 2);
    Snowpalace day = Edge.always(0);
    day.weather(1, -20, -20, 0, 100);
    day.machine(true);
    day.go(24);
    Edge.due("a day ahead of it", day.snow(), 0);
    day.go(24);
    Edge.due("a day of -20", day.snow(), 48);
    day.go(1);
    Edge.due("an hour behind it", day.snow(), 48);
    Edge.sentence("Sets the machine, off at first.");
    Snowpalace city = new Snowpalace();
    city.go(1);
    Edge.due("off", city.snow(), 0);
    Edge.due("it was off", city.machine(false), false);
    Edge.due("it was off again", city.machine(true), false);
    Edge.due("it was on", city.machine(true), true);
    city.go(1);
    Edge.due("on", city.snow(), 2);
    Edge.due("still on", city.machine(false), true);
    city.go(1);
    Edge.due("off again", city.snow(), 2);
  }

  private static void machineRoom() {
    Edge.sentence("What is beyond 500 is lost.");
    Snowpalace even = stored(99);
    even.site();
    even.lorries(1);
    even.put(0, 0, 0, 's');
    even.machine(true);
    even.go(1);
    Edge.due("498", even.snow(), 498);
    even.go(1);
    Edge.due("498 and 2", even.snow(), 500);
    even.go(1);
    Edge.due("500 and 2", even.snow(), 500);
    Snowpalace odd = stored(99);
    odd.machine(true);
    odd.go(2);
    Edge.due("499", odd.snow(), 499);
    odd.go(1);
    Edge.due("499 and 2", odd.snow(), 500);
  }
}
