/** Promises 27 to 32: lamps, light, open sites, crowds, visitors, slides. */
public final class CrowdTest {
  public static void main(String[] args) {
    lamp();
    lampWeakens();
    lampGoesWithItsCell();
    light();
    lightWrong();
    open();
    openByCreep();
    carries();
    carriesWithArches();
    carriesWrong();
    visit();
    square();
    squareWrong();
    Check.end();
  }

  private static void lamp() {
    Snowpalace city = Check.mixedStock();
    city.put(0, 0, 0, 'c');
    city.put(0, 1, 0, 'i');
    city.put(0, 2, 0, 's');
    int money = city.money();
    Check.due("lamp in c", city.lamp(0, 0, 0, true), false);
    Check.due("lamp in i", city.lamp(0, 1, 0, true), false);
    Check.due("lamps cost 50", city.money(), money - 100);
    Check.due("lamp again", city.lamp(0, 0, 0, true), true);
    Check.due("which costs nothing", city.money(), money - 100);
    Check.due("lamp out", city.lamp(0, 0, 0, false), true);
    Check.due("lamp out again", city.lamp(0, 0, 0, false), false);
    Check.due("which brings nothing", city.money(), money - 100);
    Check.due("no lamp out of snow", city.lamp(0, 2, 0, false), false);
    Check.fails("lamp in snow", city, Check.UNSUPPORTED, () -> city.lamp(0, 2, 0, true));
    Check.fails("lamp in none", city, Check.NO_ELEMENT, () -> city.lamp(0, 3, 0, true));
    Check.fails("lamp out of none", city, Check.NO_ELEMENT, () -> city.lamp(0, 3, 0, false));
    int[][] wrong = {{-1, 0, 0}, {1, 0, 0}, {0, -1, 0}, {0, 8, 0}, {0, 0, -1}, {0, 0, 6}, {0, -8, 1}};
    for (int[] w : wrong) {
      Check.fails("lamp at a wrong place", city, Check.INDEX, () -> city.lamp(w[0], w[1], w[2], true));
      Check.fails("no lamp at a wrong place", city, Check.INDEX, () -> city.lamp(w[0], w[1], w[2], false));
    }
  }

  /** A lamp falls with its cell by load at the next hour: the document tells no falling at the call itself. */
  private static void lampWeakens() {
    Snowpalace city = Check.clearStock();
    Check.column(city, 0, 5, 'c');
    Check.column(city, 2, 6, 'c');
    Check.column(city, 4, 5, 'c');
    for (int y = 1; y < 5; y++) {
      city.put(0, 1, y, 'c');
      city.put(0, 3, y, 'c');
    }
    Check.due("5000 on 5000", city.load(0, 2, 0), 5000);
    Check.due("the lamp comes", city.lamp(0, 2, 0, true), false);
    Check.due("a lamp is no putting", city.fell(0), 0);
    Check.due("but it weakens", city.strength(0, 2, 0), 4500);
    Check.due("so the site is not open", city.isOpen(0), false);
    city.go(1);
    Check.due("and the hour lets it fall", city.at(0, 2, 0), '.');
    Check.due("the column and its arches", city.fell(0), 14);
  }

  private static void lampGoesWithItsCell() {
    Snowpalace city = Check.clearStock();
    city.put(0, 0, 0, 'c');
    city.lamp(0, 0, 0, true);
    city.take(0, 0, 0);
    city.put(0, 0, 0, 'c');
    Check.due("no lamp in another cell there", city.lamp(0, 0, 0, false), false);
    city.lamp(0, 0, 0, true);
    city.carve(0, 0, 0, 0);
    city.put(0, 0, 0, 's');
    Check.due("nor in snow there", city.lamp(0, 0, 0, false), false);
    Check.due("nor its light", city.lightBits(0, 0, 0), 0);
  }

  private static void light() {
    Snowpalace city = Check.mixedStock();
    city.put(0, 1, 0, 'c');
    city.put(0, 3, 0, 'i');
    city.put(0, 4, 0, 's');
    city.put(0, 7, 0, 'i');
    Check.due("no light", city.lightBits(0, 1, 0), 0);
    city.lamp(0, 1, 0, true);
    lightIs(city, 0, 0, 0.75f);
    lightIs(city, 1, 0, 0.75f);
    lightIs(city, 2, 0, 0.75f);
    lightIs(city, 3, 0, 0.75f * 0.5f);
    lightIs(city, 4, 0, 0.75f * 0.5f * 0.25f);
    lightIs(city, 5, 0, 0.75f * 0.5f * 0.25f);
    lightIs(city, 7, 0, 0.75f * 0.5f * 0.25f * 0.5f);
    lightIs(city, 1, 1, 0f);
    city.lamp(0, 7, 0, true);
    lightIs(city, 7, 0, 0.75f * 0.5f * 0.25f * 0.5f + 0.5f);
    lightIs(city, 6, 0, 0.75f * 0.5f * 0.25f + 0.5f);
    lightIs(city, 0, 0, 0.75f + 0.5f * 0.25f * 0.5f * 0.75f);
    city.lamp(0, 3, 0, true);
    lightIs(city, 2, 0, 0.75f + 0.5f + 0.5f * 0.25f * 0.5f);
    city.put(0, 7, 1, 'c');
    city.lamp(0, 7, 1, true);
    lightIs(city, 0, 1, 0.75f);
    lightIs(city, 0, 5, 0f);
    Snowpalace full = Check.clearStock();
    Check.due("eight", full.site(), 1);
    for (int x = 0; x < 8; x++) {
      full.put(0, x, 0, 'c');
      full.lamp(0, x, 0, true);
    }
    for (int x = 0; x < 8; x++) {
      float sum = 0f;
      for (int lamp = 0; lamp < 8; lamp++) {
        float ray = 1f;
        for (int i = 0; i <= Math.abs(lamp - x); i++) {
          ray *= 0.75f;
        }
        sum += ray;
      }
      lightIs(full, x, 0, sum);
    }
    Snowpalace dark = Check.clearStock();
    dark.put(0, 0, 0, 'c');
    dark.lamp(0, 0, 0, true);
    for (int x = 1; x < 8; x++) {
      dark.put(0, x, 0, 's');
    }
    lightIs(dark, 7, 0, 0.75f / 16384f);
  }

  private static void lightIs(Snowpalace city, int x, int y, float want) {
    Check.due("light at " + x + ", " + y, city.lightBits(0, x, y), Float.floatToIntBits(want));
  }

  private static void lightWrong() {
    Snowpalace city = Check.clearStock();
    int[][] wrong = {{-1, 0, 0}, {1, 0, 0}, {0, -1, 0}, {0, 8, 0}, {0, 0, -1}, {0, 0, 6}, {0, -8, 1}};
    for (int[] w : wrong) {
      Check.fails("light at a wrong place", city, Check.INDEX, () -> city.lightBits(w[0], w[1], w[2]));
      Check.fails("visit", city, Check.INDEX, () -> city.visit(w[0] == 0 ? 7 : w[0], 1));
    }
  }

  private static void open() {
    Snowpalace city = Check.clearStock();
    Check.due("without a cell", city.isOpen(0), false);
    Check.column(city, 0, 4, 's');
    Check.due("1200 twice on 2500", city.isOpen(0), true);
    city.put(0, 0, 4, 's');
    Check.due("1500 twice on 2500", city.isOpen(0), false);
    city.carve(0, 0, 4, 199);
    Check.due("1301 twice on 2500", city.isOpen(0), false);
    city.carve(0, 0, 3, 51);
    Check.due("1250 twice on 2500", city.isOpen(0), true);
    city.put(0, 5, 0, 's');
    city.put(0, 5, 1, 'c');
    city.put(0, 5, 2, 'c');
    Check.due("another column too heavy", city.isOpen(0), false);
    Check.fails("isOpen of site -1", city, Check.INDEX, () -> city.isOpen(-1));
    Check.fails("isOpen of site 1", city, Check.INDEX, () -> city.isOpen(1));
    Snowpalace warm = Check.clearStock();
    warm.weather(2, 50, 50, 0, 100);
    warm.cover(0, true);
    warm.put(0, 0, 0, 's');
    warm.put(0, 0, 1, 's');
    warm.put(0, 0, 2, 's');
    warm.go(23);
    Check.due("open in the cold", warm.isOpen(0), true);
    warm.go(1);
    Check.due("1800 by 2500 and 240 less 1000", warm.isOpen(0), false);
    Check.due("strength in the warmth", warm.strength(0, 0, 0), 1740);
  }

  private static void openByCreep() {
    Snowpalace city = Check.clearStock();
    city.put(0, 0, 0, 'c');
    city.put(0, 0, 1, 'c');
    int hours = 0;
    while (city.creep(0, 0, 0) < 200 && hours < 300) {
      Check.due("open below 200", city.isOpen(0), true);
      city.go(1);
      hours++;
    }
    Check.due("2 an hour", hours, 100);
    Check.due("creep 200", city.creep(0, 0, 0), 200);
    Check.due("not open from 200 on", city.isOpen(0), false);
    Check.due("it carries none then", city.carries(0, 0), 0);
    Check.fails("nor do visitors come", city, Check.UNSUPPORTED, () -> city.visit(0, 1));
    Check.due("nor is it shared", city.openShare(), 0.0f);
    city.carve(0, 0, 1, 0);
    city.carve(0, 0, 0, 0);
    city.put(0, 0, 0, 'c');
    Check.due("open with a new cell", city.isOpen(0), true);
    Snowpalace slow = Check.clearStock();
    slow.put(0, 0, 0, 'c');
    for (int i = 0; i < 4; i++) {
      slow.go(48);
    }
    slow.go(7);
    Check.due("1 an hour", slow.creep(0, 0, 0), 199);
    Check.due("open with 199", slow.isOpen(0), true);
    slow.go(1);
    Check.due("not with 200", slow.isOpen(0), false);
  }

  private static void carries() {
    Snowpalace city = Check.mixedStock();
    city.put(0, 0, 0, 's');
    Check.due("950 by 70", city.carries(0, 0), 13);
    city.carve(0, 0, 0, 30);
    Check.due("980 by 70", city.carries(0, 0), 14);
    city.put(0, 0, 1, 's');
    Check.due("680 by 70", city.carries(0, 0), 9);
    city.put(0, 2, 0, 'i');
    Check.due("2550 by 70", city.carries(0, 2), 36);
    city.put(0, 2, 1, 's');
    Check.due("the snow on top bears less", city.carries(0, 2), 13);
    city.put(0, 4, 0, 'c');
    city.lamp(0, 4, 0, true);
    Check.due("1750 by 70", city.carries(0, 4), 25);
    Check.due("what it carries changes nothing", city.load(0, 4, 0), 500);
    city.go(48);
    Check.due("half of 2980, less 300", city.carries(0, 2), 17);
    Check.due("half of 4980, less 500", city.carries(0, 4), 28);
    city.put(0, 6, 0, 's');
    city.put(0, 6, 1, 'c');
    city.put(0, 6, 2, 'c');
    Check.due("not open: none", city.carries(0, 2), 0);
    Snowpalace high = Check.mixedStock();
    Check.column(high, 0, 5, 'i');
    high.put(0, 0, 5, 's');
    Check.due("the highest place: 6000 by 2 less 2550, by 70", high.carries(0, 0), 6);
    Check.column(high, 2, 1, 'i');
    Check.due("a column beside", high.carries(0, 2), 36);
    Check.due("not open itself: none", city.carries(0, 6), 0);
  }

  private static void carriesWithArches() {
    Snowpalace city = Check.mixedStock();
    Check.column(city, 0, 2, 's');
    Check.column(city, 2, 2, 's');
    city.put(0, 1, 1, 'i');
    Check.due("half of the arch", city.load(0, 0, 0), 825);
    Check.due("people on the arch, half of them on each foot", city.carries(0, 1), 12);
    Check.due("people on the foot", city.carries(0, 0), 6);
    Check.fails("none below", city, Check.NO_ELEMENT, () -> city.carries(0, 3));
    Check.due("the most of i alone", city.site(), 1);
    city.put(1, 0, 0, 'i');
    city.go(48);
    Check.due("480 more strength", city.carries(1, 0), 39);
    city.carve(1, 0, 0, 200);
    Check.due("the carved one carries more", city.carries(1, 0), 42);
  }

  private static void carriesWrong() {
    Snowpalace city = Check.clearStock();
    city.put(0, 0, 0, 's');
    Check.fails("carries of site 1", city, Check.INDEX, () -> city.carries(1, 0));
    Check.fails("carries of site -1", city, Check.INDEX, () -> city.carries(-1, 0));
    Check.fails("carries of x -1", city, Check.INDEX, () -> city.carries(0, -1));
    Check.fails("carries of x 8", city, Check.INDEX, () -> city.carries(0, 8));
    Check.fails("carries of an empty column", city, Check.NO_ELEMENT, () -> city.carries(0, 7));
  }

  private static void visit() {
    Snowpalace city = Check.clearStock();
    Check.fails("visit where nothing is", city, Check.UNSUPPORTED, () -> city.visit(0, 1));
    city.put(0, 0, 0, 's');
    int money = city.money();
    Check.due("visit", city.visit(0, 1), 1);
    Check.due("visit of many", city.visit(0, 500), 501);
    Check.due("what they bring", city.money(), money + 2505);
    city.site();
    city.put(1, 0, 0, 's');
    Check.due("another site has its own", city.visit(1, 7), 7);
    Check.due("and the first its", city.visit(0, 2), 503);
    Check.fails("visit 0", city, Check.ARGUMENT, () -> city.visit(0, 0));
    Check.fails("visit 501", city, Check.ARGUMENT, () -> city.visit(0, 501));
    Check.fails("visit -1", city, Check.ARGUMENT, () -> city.visit(0, -1));
    Check.fails("visit of site 2", city, Check.INDEX, () -> city.visit(2, 0));
    city.site();
    Check.fails("visit 0 where it is not open", city, Check.ARGUMENT, () -> city.visit(2, 0));
    Check.fails("visit where it is not open", city, Check.UNSUPPORTED, () -> city.visit(2, 1));
  }

  private static void square() {
    int[] warmths = {-150, 0, 1, 200};
    for (int warmth : warmths) {
      Snowpalace city = new Snowpalace();
      city.weather(0, warmth, warmth, 5, 80);
      for (int drop = 1; drop <= 20; drop++) {
        for (int length = 5; length <= 60; length++) {
          squareIs(city, drop, length, true, 0.1 + (warmth > 0 ? 0.05 : 0.0));
          squareIs(city, drop, length, false, 0.05 + (warmth > 0 ? 0.05 : 0.0));
        }
      }
    }
    Snowpalace city = new Snowpalace();
    Check.due("square told", city.squareBits(10, 20, true), 4639726555607303455L);
    Check.due("square of none", city.squareBits(1, 60, false), 0L);
    Check.due("square of just none", city.squareBits(1, 20, false), 0L);
    city.weather(0, -10, 14, 5, 80);
    long cold = city.squareBits(5, 5, false);
    city.go(5);
    Check.due("at 0 as in the cold", city.squareBits(5, 5, false), cold);
    city.go(1);
    Check.due("at 2 more rub", Double.longBitsToDouble(city.squareBits(5, 5, false)), 2.0 * 9.81 * (5.0 - 0.1 * 5.0));
  }

  private static void squareIs(Snowpalace city, int drop, int length, boolean mat, double rub) {
    double square = 2.0 * 9.81 * (drop - rub * length);
    long want = square > 0.0 ? Double.doubleToLongBits(square) : 0L;
    Check.due("square of " + drop + ", " + length + ", " + mat, city.squareBits(drop, length, mat), want);
  }

  private static void squareWrong() {
    Snowpalace city = new Snowpalace();
    int[][] wrong = {{0, 5}, {21, 5}, {-1, 5}, {1, 4}, {1, 61}, {1, -1}, {Integer.MAX_VALUE, Integer.MIN_VALUE}};
    for (int[] w : wrong) {
      Check.fails("square wrong", city, Check.ARGUMENT, () -> city.squareBits(w[0], w[1], true));
      Check.fails("square wrong", city, Check.ARGUMENT, () -> city.squareBits(w[0], w[1], false));
    }
  }
}
