/** Promises 33 to 38: plans, carving, its hours, judging, marks, taking down. */
public final class TeamTest {
  public static void main(String[] args) {
    plan();
    carve();
    carveTakes();
    carveWrong();
    hours();
    judge();
    take();
    takeWrong();
    Check.end();
  }

  private static void plan() {
    Snowpalace city = Check.clearStock();
    Check.due("plan", city.plan(0, 0, 0, true), 1);
    Check.due("plan again", city.plan(0, 0, 0, true), 1);
    Check.due("plan another", city.plan(0, 7, 5, true), 2);
    Check.due("plan none where none was", city.plan(0, 1, 0, false), 2);
    Check.due("plan back", city.plan(0, 0, 0, false), 1);
    city.site();
    Check.due("another site's plan", city.plan(1, 3, 3, true), 1);
    for (int place = 0; place < 48; place++) {
      city.plan(0, place % 8, place / 8, true);
    }
    Check.due("all are planned", city.plan(0, 0, 0, true), 48);
    int[][] wrong = {{-1, 0, 0}, {2, 0, 0}, {0, -1, 0}, {0, 8, 0}, {0, 0, -1}, {0, 0, 6}, {0, -8, 1}};
    for (int[] w : wrong) {
      Check.fails("plan wrong", city, Check.INDEX, () -> city.plan(w[0], w[1], w[2], true));
    }
  }

  private static void carve() {
    Snowpalace city = Check.mixedStock();
    city.put(0, 0, 0, 's');
    int money = city.money();
    Check.due("carve 1", city.carve(0, 0, 0, 1), 0);
    Check.due("mass then", city.mass(0, 0, 0), 299);
    Check.due("carve 198", city.carve(0, 0, 0, 198), 0);
    Check.due("101 is left", city.mass(0, 0, 0), 101);
    Check.fails("carve to 100", city, Check.UNSUPPORTED, () -> city.carve(0, 0, 0, 1));
    Check.due("two hours", city.hours(0), 58);
    Check.due("the clock stands", city.now(), 144);
    Check.due("carving costs nothing", city.money(), money);
    city.put(0, 1, 0, 'i');
    Check.due("carve i", city.carve(0, 1, 0, 200), 0);
    Check.due("mass of i", city.mass(0, 1, 0), 250);
    Check.fails("carve it to 50", city, Check.UNSUPPORTED, () -> city.carve(0, 1, 0, 200));
    city.put(0, 1, 1, 'c');
    Check.due("carve c", city.carve(0, 1, 1, 200), 0);
    Check.due("mass of c", city.mass(0, 1, 1), 300);
    Check.due("load below", city.load(0, 1, 0), 550);
  }

  private static void carveTakes() {
    Snowpalace city = Check.mixedStock();
    Check.column(city, 1, 3, 'i');
    Check.column(city, 3, 2, 'i');
    city.put(0, 2, 1, 'i');
    int money = city.money();
    Check.due("carve off the top", city.carve(0, 1, 2, 0), 0);
    Check.due("what is taken did not fall", city.fell(0), 0);
    Check.due("it is gone", city.at(0, 1, 2), '.');
    Check.due("carve off a foot", city.carve(0, 3, 0, 0), 2);
    Check.due("two fell", city.fell(0), 2);
    Check.due("they cost", city.money(), money - 400);
    Check.due("two are left", city.count(0), 2);
    Check.due("the arch falls with its foot, not later", city.lastFell(0), 11);
    Check.due("carve a carved one off", carveTwice(city), 0);
    Check.due("blocks do not come back", city.yard(false), 74);
    fallsAsItIsWarm();
  }

  private static int carveTwice(Snowpalace city) {
    city.carve(0, 1, 1, 200);
    return city.carve(0, 1, 1, 0);
  }

  /** Carving looks at the whole site: what the warmth of this hour has weakened falls then, the carved cell too. */
  private static void fallsAsItIsWarm() {
    Snowpalace city = Check.clearStock();
    city.weather(2, 200, 200, 0, 100);
    city.put(0, 0, 0, 's');
    city.put(0, 2, 0, 's');
    city.put(0, 4, 0, 'c');
    city.go(24);
    Check.due("they stand", city.count(0), 3);
    Check.due("two fall, the carved cell among them", city.carve(0, 0, 0, 1), 2);
    Check.due("one stands", city.count(0), 1);
  }

  private static void carveWrong() {
    Snowpalace city = Check.clearStock();
    city.put(0, 0, 0, 's');
    int[][] wrong = {{-1, 0, 0}, {1, 0, 0}, {0, -1, 0}, {0, 8, 0}, {0, 0, -1}, {0, 0, 6}, {0, -8, 1}};
    for (int[] w : wrong) {
      Check.fails("carve wrong", city, Check.INDEX, () -> city.carve(w[0], w[1], w[2], 201));
    }
    Check.fails("carve -1", city, Check.ARGUMENT, () -> city.carve(0, 0, 0, -1));
    Check.fails("carve 201", city, Check.ARGUMENT, () -> city.carve(0, 0, 0, 201));
    Check.fails("carve 201 of none", city, Check.ARGUMENT, () -> city.carve(0, 1, 0, 201));
    Check.fails("carve none", city, Check.NO_ELEMENT, () -> city.carve(0, 1, 0, 0));
    Check.fails("carve too much", city, Check.UNSUPPORTED, () -> city.carve(0, 0, 0, 200));
    for (int i = 0; i < 60; i++) {
      city.carve(0, 0, 0, 1);
    }
    Check.due("60 hours carved", city.mass(0, 0, 0), 240);
    Check.due("none is left", city.hours(0), 0);
    Check.fails("carve a 61st hour", city, Check.STATE, () -> city.carve(0, 0, 0, 1));
    Check.fails("take in a 61st hour", city, Check.STATE, () -> city.carve(0, 0, 0, 0));
    Check.fails("too much in a 61st hour", city, Check.STATE, () -> city.carve(0, 0, 0, 200));
    Check.fails("none in a 61st hour", city, Check.NO_ELEMENT, () -> city.carve(0, 1, 0, 1));
    city.site();
    city.put(1, 0, 0, 's');
    Check.due("another site has its hours", city.carve(1, 0, 0, 1), 0);
  }

  private static void hours() {
    Snowpalace city = Check.clearStock();
    Check.due("60 hours", city.hours(0), 60);
    city.put(0, 0, 0, 's');
    city.carve(0, 0, 0, 0);
    Check.due("59 hours", city.hours(0), 59);
    city.go(48);
    Check.due("the clock does not use them", city.hours(0), 59);
    city.site();
    Check.due("hours of another", city.hours(1), 60);
    Check.fails("hours of site -1", city, Check.INDEX, () -> city.hours(-1));
    Check.fails("hours of site 2", city, Check.INDEX, () -> city.hours(2));
  }

  private static void judge() {
    Snowpalace city = Check.clearStock();
    Check.fails("no mark at first", city, Check.NO_ELEMENT, () -> city.mark(0));
    Check.due("all empty as planned", city.judge(0), 1.0);
    Check.due("the mark", city.mark(0), 1.0);
    city.put(0, 0, 0, 's');
    Check.due("the mark stays", city.mark(0), 1.0);
    Check.due("one too many", city.judge(0), 47.0 / 48.0);
    city.plan(0, 0, 0, true);
    city.plan(0, 1, 0, true);
    city.plan(0, 2, 0, true);
    Check.due("the mark stays till judged", city.mark(0), 47.0 / 48.0);
    Check.due("two are missing", city.judge(0), 46.0 / 48.0);
    city.put(0, 0, 1, 's');
    city.carve(0, 0, 0, 0);
    Check.due("three are missing, one fell", city.judge(0), 45.0 / 48.0 - 0.05);
    city.put(0, 0, 0, 's');
    city.put(0, 0, 1, 's');
    city.put(0, 0, 2, 's');
    city.carve(0, 0, 0, 0);
    Check.due("three fell", city.judge(0), 45.0 / 48.0 - 0.05 * 3);
    Check.due("the mark then", city.mark(0), 45.0 / 48.0 - 0.05 * 3);
    city.site();
    Check.fails("no mark of another", city, Check.NO_ELEMENT, () -> city.mark(1));
    for (int place = 0; place < 48; place++) {
      city.plan(1, place % 8, place / 8, true);
    }
    Check.due("nothing as planned", city.judge(1), 0.0);
    Check.due("a mark of 0", city.mark(1), 0.0);
    city.put(1, 0, 0, 's');
    city.put(1, 0, 1, 's');
    city.carve(1, 0, 0, 0);
    Check.due("below 0", city.judge(1), 0.0 / 48.0 - 0.05);
    Check.fails("judge of site 2", city, Check.INDEX, () -> city.judge(2));
    Check.fails("judge of site -1", city, Check.INDEX, () -> city.judge(-1));
    Check.fails("mark of site 2", city, Check.INDEX, () -> city.mark(2));
    Check.fails("mark of site -1", city, Check.INDEX, () -> city.mark(-1));
  }

  private static void take() {
    Snowpalace city = Check.mixedStock();
    Check.column(city, 1, 2, 'i');
    Check.column(city, 3, 2, 'c');
    city.put(0, 2, 1, 's');
    int money = city.money();
    int snow = city.snow();
    Check.fails("take a foot", city, Check.UNSUPPORTED, () -> city.take(0, 1, 0));
    Check.fails("take what an arch is on", city, Check.UNSUPPORTED, () -> city.take(0, 3, 1));
    Check.due("take the arch", city.take(0, 2, 1), 300);
    Check.due("it is gone", city.at(0, 2, 1), '.');
    Check.due("take c", city.take(0, 3, 1), 500);
    city.carve(0, 1, 1, 50);
    Check.due("take i carved", city.take(0, 1, 1), 400);
    Check.due("nothing fell", city.fell(0), 0);
    Check.due("no hour for that", city.hours(0), 59);
    Check.due("nor money", city.money(), money);
    Check.due("nor snow comes back", city.snow(), snow);
    Check.due("nor a clear block", city.yard(true), 78);
    Check.due("two are left", city.count(0), 2);
    takeMakesAnArch();
  }

  /** Without its foot a cell may still stand, as an arch, and may still not bear that. */
  private static void takeMakesAnArch() {
    Snowpalace city = Check.clearStock();
    Check.column(city, 1, 2, 's');
    Check.column(city, 2, 2, 'c');
    Check.column(city, 3, 2, 's');
    Check.due("take the foot of what is an arch then", city.take(0, 2, 0), 500);
    Check.due("it is one", city.isArch(0, 2, 1), true);
    Snowpalace heavy = Check.clearStock();
    Check.column(heavy, 1, 2, 's');
    Check.column(heavy, 3, 2, 's');
    Check.column(heavy, 2, 6, 'c');
    for (int y = 2; y < 4; y++) {
      heavy.put(0, 1, y, 'c');
    }
    Check.fails("the snow would not bear it", heavy, Check.UNSUPPORTED, () -> heavy.take(0, 2, 0));
    Check.due("after taking the top", heavy.take(0, 1, 3), 500);
    Check.due("it would", heavy.take(0, 2, 0), 500);
    Check.due("all else stands", heavy.count(0), 10);
  }

  private static void takeWrong() {
    Snowpalace city = Check.clearStock();
    city.put(0, 0, 0, 's');
    int[][] wrong = {{-1, 0, 0}, {1, 0, 0}, {0, -1, 0}, {0, 8, 0}, {0, 0, -1}, {0, 0, 6}, {0, -8, 1}};
    for (int[] w : wrong) {
      Check.fails("take wrong", city, Check.INDEX, () -> city.take(w[0], w[1], w[2]));
    }
    Check.fails("take none", city, Check.NO_ELEMENT, () -> city.take(0, 1, 0));
    Check.fails("take none above", city, Check.NO_ELEMENT, () -> city.take(0, 0, 1));
  }
}
