/** Promises 7 to 14: ice, clear, bears, cut, yard, lorries, machine, snow. */
public final class RiverTest {
  public static void main(String[] args) {
    growth();
    clearGrowth();
    thaw();
    bears();
    cut();
    cutWrong();
    clearShare();
    lorries();
    machine();
    wrongFields();
    Check.end();
  }

  private static Snowpalace always(int warmth) {
    Snowpalace city = new Snowpalace();
    for (int day = 0; day <= 20; day++) {
      city.weather(day, warmth, warmth, 0, 100);
    }
    return city;
  }

  private static void growth() {
    Snowpalace city = always(-400);
    int[] thick = {40, 73, 103, 129, 154, 177, 199, 220, 239, 258, 276, 293, 309};
    for (int want : thick) {
      city.go(1);
      for (int field = 0; field < 4; field++) {
        Check.due("ice grows", city.ice(field), want);
        Check.due("clear ice grows", city.clear(field), want);
      }
    }
    Snowpalace little = always(-9);
    little.go(48);
    Check.due("too little is cut to nothing", little.ice(0), 0);
    Snowpalace none = always(0);
    none.go(48);
    Check.due("no ice at 0", none.ice(3), 0);
  }

  private static void clearGrowth() {
    Snowpalace atEdge = always(-100);
    atEdge.go(1);
    Check.due("ice at -100", atEdge.ice(1), 10);
    Check.due("clear at -100", atEdge.clear(1), 10);
    Snowpalace above = always(-99);
    above.go(1);
    Check.due("ice at -99", above.ice(1), 9);
    Check.due("clear at -99", above.clear(1), 0);
  }

  private static void thaw() {
    Snowpalace city = new Snowpalace();
    city.weather(0, -99, -99, 0, 100);
    city.weather(1, -100, -100, 0, 100);
    city.weather(2, 19, 19, 0, 100);
    city.weather(3, 200, 200, 0, 100);
    city.weather(4, 9, 9, 0, 100);
    city.go(24);
    int others = city.ice(0);
    city.go(24);
    int all = city.ice(0);
    Check.due("clear part", city.clear(0), all - others);
    city.go(1);
    Check.due("a tenth, cut, goes", city.ice(0), all - 1);
    Check.due("clear ice stays while there is so much", city.clear(0), all - others);
    city.go(23);
    Check.due("24 hours of thaw", city.ice(0), all - 24);
    city.go(1);
    Check.due("an hour of strong thaw", city.ice(0), all - 44);
    for (int i = 0; i < 7; i++) {
      city.go(1);
      Check.due("thaw", city.ice(0), Math.max(0, all - 44 - 20 * (i + 1)));
      Check.due("clear ice is as much as all at most", city.clear(0), Math.min(all - others, city.ice(0)));
      Check.due("sound in thaw", city.isSound(), true);
    }
    city.go(20);
    Check.due("no ice is below 0", city.ice(0), 0);
    Check.due("nor clear ice", city.clear(0), 0);
  }

  private static void bears() {
    Snowpalace city = always(-400);
    city.go(9);
    Check.due("239 does not bear", city.bears(0), false);
    city.go(1);
    Check.due("258 bears", city.bears(0), true);
    Snowpalace slow = always(-99);
    int hours = 0;
    while (slow.ice(2) < 250 && hours < 100) {
      Check.due("bears below 250", slow.bears(2), false);
      slow.go(1);
      hours++;
    }
    Check.due("bears from 250 on", slow.bears(2), true);
    Snowpalace below = always(-383);
    below.go(10);
    Check.due("249 to the millimetre", below.ice(0), 249);
    Check.due("249 does not bear", below.bears(0), false);
    Snowpalace exact = always(-384);
    exact.go(10);
    Check.due("250 to the millimetre", exact.ice(0), 250);
    Check.due("250 bears", exact.bears(0), true);
    city.go(14);
    city.cut(0, 20);
    Check.due("20 places left bear", city.bears(0), true);
    city.cut(0, 1);
    Check.due("19 places left do not bear", city.bears(0), false);
    Check.due("another field bears", city.bears(1), true);
  }

  private static void cut() {
    Snowpalace city = always(-400);
    city.go(13);
    Check.due("ice for cutting", city.ice(0), 309);
    Check.due("cut 1", city.cut(0, 1), 39);
    Check.due("cut 19", city.cut(0, 19), 20);
    Check.due("cut 20", city.cut(0, 20), 0);
    Check.due("yard", city.yard(true), 40);
    Check.due("yard of others", city.yard(false), 0);
    Check.due("money for blocks", city.money(), -800);
    Check.due("another field has its own places", city.cut(3, 20), 20);
    Check.due("ice stays", city.ice(0), 309);
    Check.fails("cut of no places", city, Check.UNSUPPORTED, () -> city.cut(0, 1));
    city.cut(3, 20);
    city.cut(1, 20);
    city.cut(1, 20);
    city.cut(2, 20);
    city.cut(2, 20);
    Check.due("the yard has all", city.yard(true), 160);
  }

  private static void cutWrong() {
    Snowpalace city = always(-400);
    Check.fails("cut without ice", city, Check.UNSUPPORTED, () -> city.cut(0, 1));
    Check.fails("cut 0", city, Check.ARGUMENT, () -> city.cut(0, 0));
    Check.fails("cut 21", city, Check.ARGUMENT, () -> city.cut(0, 21));
    Check.fails("cut -1", city, Check.ARGUMENT, () -> city.cut(0, -1));
    Check.fails("cut field 4", city, Check.ARGUMENT, () -> city.cut(4, 1));
    Check.fails("cut field -1", city, Check.ARGUMENT, () -> city.cut(-1, 1));
    city.go(12);
    Check.due("293 bears", city.bears(0), true);
    Check.fails("cut of 293", city, Check.UNSUPPORTED, () -> city.cut(0, 1));
    city.go(1);
    city.cut(0, 15);
    city.cut(0, 5);
    city.cut(0, 2);
    Check.fails("cut of a field that does not bear", city, Check.UNSUPPORTED, () -> city.cut(0, 1));
    city.cut(1, 11);
    city.cut(1, 9);
    Check.due("20 of 20", city.cut(1, 20), 0);
    city.cut(2, 18);
    city.cut(2, 1);
    Check.due("20 of 21", city.cut(2, 20), 1);
    Snowpalace below = always(-384);
    below.go(13);
    Check.due("299 to the millimetre", below.ice(0), 299);
    Check.fails("cut of 299", below, Check.UNSUPPORTED, () -> below.cut(0, 1));
    Snowpalace exact = always(-99);
    for (int i = 0; exact.ice(0) < 300 && i < 100; i++) {
      exact.go(1);
    }
    Check.due("300 to the millimetre", exact.ice(0), 300);
    Check.due("cut of 300", exact.cut(0, 1), 39);
    Check.due("it is not clear", exact.yard(false), 1);
    Check.due("nor counted as clear", exact.yard(true), 0);
  }

  /** Blocks are clear from two thirds on, told at the exact edge and then in many weathers. */
  private static void clearShare() {
    Snowpalace exact = new Snowpalace();
    exact.weather(0, -97, -97, 0, 100);
    exact.weather(1, -400, -400, 0, 100);
    exact.go(45);
    Check.due("all ice at the edge", exact.ice(0), 483);
    Check.due("clear ice at the edge", exact.clear(0), 322);
    exact.cut(0, 3);
    Check.due("two thirds are clear", exact.yard(true), 3);
    Check.due("and not the others", exact.yard(false), 0);
    int clearEdges = 0;
    int otherEdges = 0;
    for (int low = -160; low < -100; low++) {
      Snowpalace city = new Snowpalace();
      for (int day = 0; day <= 20; day++) {
        city.weather(day, low, -50, 0, 100);
      }
      city.go(48);
      city.go(48);
      for (int i = 0; i < 60; i++) {
        city.go(1);
        int all = city.ice(0);
        if (all >= 300 && i % 4 == 0 && city.bears(0)) {
          int before = city.yard(true);
          city.cut(0, 1);
          boolean isClear = city.clear(0) * 3 >= all * 2;
          Check.due("clear blocks of " + city.clear(0) + " of " + all, city.yard(true) - before, isClear ? 1 : 0);
          clearEdges += isClear ? 1 : 0;
          otherEdges += isClear ? 0 : 1;
        }
      }
    }
    Check.due("both kinds were cut", clearEdges > 0 && otherEdges > 0, true);
  }

  private static void lorries() {
    Snowpalace city = new Snowpalace();
    Check.due("a lorry", city.lorries(1), 5);
    Check.due("20 lorries", city.lorries(20), 105);
    Check.due("money for lorries", city.money(), -2100);
    Check.due("snow", city.snow(), 105);
    Check.fails("lorries 0", city, Check.ARGUMENT, () -> city.lorries(0));
    Check.fails("lorries 21", city, Check.ARGUMENT, () -> city.lorries(21));
    Check.fails("lorries -5", city, Check.ARGUMENT, () -> city.lorries(-5));
    Check.fails("lorries most", city, Check.ARGUMENT, () -> city.lorries(Integer.MAX_VALUE));
    city.lorries(20);
    city.lorries(20);
    city.lorries(20);
    Check.due("405 snow", city.snow(), 405);
    Check.due("beyond 500 is lost", city.lorries(20), 500);
    Check.due("500 stays", city.lorries(1), 500);
    Check.due("all lorries cost", city.money(), -10200);
  }

  private static void machine() {
    Snowpalace city = new Snowpalace();
    city.weather(0, -20, -20, 0, 100);
    city.weather(1, -19, -19, 0, 100);
    city.weather(2, 0, 0, 0, 60);
    city.weather(3, 0, 0, 0, 61);
    city.go(1);
    Check.due("off at first", city.snow(), 0);
    Check.due("machine on", city.machine(true), false);
    Check.due("machine stays on", city.machine(true), true);
    city.go(1);
    Check.due("2 an hour at -20", city.snow(), 2);
    city.go(22);
    Check.due("to the end of the day", city.snow(), 46);
    city.go(24);
    Check.due("none at -19", city.snow(), 46);
    city.go(24);
    Check.due("wet warmth -20", city.snow(), 94);
    city.go(24);
    Check.due("wet warmth -19", city.snow(), 94);
    city.go(1);
    Check.due("usual weather", city.snow(), 96);
    Check.due("machine off", city.machine(false), true);
    Check.due("machine is off", city.machine(false), false);
    city.go(23);
    Check.due("off again", city.snow(), 96);
    Check.due("a machine costs nothing", city.money(), 0);
    city.machine(true);
    for (int i = 0; i < 4; i++) {
      city.lorries(20);
    }
    Check.due("nearly full", city.snow(), 496);
    city.go(1);
    Check.due("nearly full, 498", city.snow(), 498);
    city.go(5);
    Check.due("500 at most", city.snow(), 500);
  }

  private static void wrongFields() {
    Snowpalace city = new Snowpalace();
    int[] wrong = {-1, 4, Integer.MIN_VALUE, Integer.MAX_VALUE};
    for (int field : wrong) {
      Check.fails("ice " + field, city, Check.ARGUMENT, () -> city.ice(field));
      Check.fails("clear " + field, city, Check.ARGUMENT, () -> city.clear(field));
      Check.fails("bears " + field, city, Check.ARGUMENT, () -> city.bears(field));
    }
  }
}
