/** Promises 39 to 44: money, count, openShare, meanCreep, checksum, isSound. */
public final class CityTest {
  public static void main(String[] args) {
    money();
    count();
    openShare();
    meanCreep();
    checksum();
    sound();
    Check.end();
  }

  private static void money() {
    Snowpalace city = new Snowpalace();
    Check.due("money at first", city.money(), 0);
    city.lorries(3);
    Check.due("lorries", city.money(), -300);
    city.site();
    city.put(0, 0, 0, 's');
    Check.due("a cell", city.money(), -310);
    city.put(0, 0, 1, 's');
    Check.due("another", city.money(), -320);
    city.carve(0, 0, 0, 0);
    Check.due("one fell", city.money(), -520);
    city.put(0, 0, 0, 's');
    city.visit(0, 200);
    Check.due("visitors", city.money(), 470);
    city.cover(0, true);
    Check.due("a cover", city.money(), 170);
    city.go(48);
    city.machine(true);
    Check.due("nothing else", city.money(), 170);
  }

  private static void count() {
    Snowpalace city = Check.clearStock();
    Check.due("count of none", city.count(0), 0);
    city.put(0, 0, 0, 's');
    city.put(0, 7, 0, 's');
    Check.due("count of two", city.count(0), 2);
    city.take(0, 7, 0);
    Check.due("count of one", city.count(0), 1);
    Check.fails("count of site -1", city, Check.INDEX, () -> city.count(-1));
    Check.fails("count of site 1", city, Check.INDEX, () -> city.count(1));
    for (int place = 1; place < 24; place++) {
      city.put(0, place % 8, place / 8, 's');
    }
    Check.due("count of many", city.count(0), 24);
  }

  private static void openShare() {
    Snowpalace city = new Snowpalace();
    Check.fails("share of none", city, Check.ARITHMETIC, city::openShare);
    city.lorries(20);
    city.site();
    Check.due("0 of 1", city.openShare(), 0.0f);
    city.put(0, 0, 0, 's');
    Check.due("1 of 1", city.openShare(), 1.0f);
    city.site();
    Check.due("1 of 2", city.openShare(), 0.5f);
    city.site();
    Check.due("1 of 3", city.openShare(), 1.0f / 3.0f);
    city.put(2, 0, 0, 's');
    Check.due("2 of 3", city.openShare(), 2.0f / 3.0f);
  }

  private static void meanCreep() {
    Snowpalace city = Check.clearStock();
    Check.fails("mean of none", city, Check.ARITHMETIC, () -> city.meanCreep(0));
    Check.fails("mean of site 1", city, Check.INDEX, () -> city.meanCreep(1));
    Check.fails("mean of site -1", city, Check.INDEX, () -> city.meanCreep(-1));
    Check.column(city, 0, 3, 'c');
    Check.due("mean at first", city.meanCreep(0), 0.0);
    city.go(1);
    Check.due("3, 2 and 1", city.meanCreep(0), 2.0);
    city.put(0, 3, 0, 's');
    Check.due("and 0", city.meanCreep(0), 1.5);
    city.put(0, 4, 0, 's');
    city.put(0, 5, 0, 's');
    city.put(0, 6, 0, 's');
    Check.due("6 by 7", city.meanCreep(0), 6.0 / 7.0);
  }

  private static void checksum() {
    Snowpalace city = new Snowpalace();
    Check.due("of a new city", city.checksum(), sumOf(new long[] {7, 0, 0, 0, 0, 0, 0}));
    city.lorries(1);
    Check.due("with money and snow", city.checksum(), sumOf(new long[] {7, -100, 5, 0, 0, 0, 0}));
    city.weather(0, -400, -400, 0, 100);
    city.go(1);
    Check.due("with ice", city.checksum(), sumOf(new long[] {7, -100, 5, 40, 40, 40, 40}));
    city.site();
    city.put(0, 1, 0, 's');
    long[] all = new long[1 + 48 + 6];
    all[0] = 7;
    all[2] = 300;
    all[49] = -110;
    all[50] = 1;
    for (int field = 0; field < 4; field++) {
      all[51 + field] = 40;
    }
    Check.due("with a site", city.checksum(), sumOf(all));
    Snowpalace crept = Check.clearStock();
    crept.site();
    Check.column(crept, 0, 3, 'c');
    crept.put(1, 7, 0, 's');
    crept.carve(1, 7, 0, 7);
    crept.go(1);
    long[] two = new long[1 + 96 + 6];
    two[0] = 7;
    two[1] = 503;
    two[9] = 502;
    two[17] = 501;
    two[48 + 8] = 293;
    two[97] = -160 * 20 - 4000 - 40;
    two[98] = 196;
    for (int field = 0; field < 4; field++) {
      two[99 + field] = crept.ice(field);
    }
    Check.due("with creep and two sites", crept.checksum(), sumOf(two));
  }

  private static long sumOf(long[] numbers) {
    long sum = numbers[0];
    for (int i = 1; i < numbers.length; i++) {
      sum = 31 * sum + numbers[i];
    }
    return sum;
  }

  private static void sound() {
    Snowpalace city = Check.mixedStock();
    Check.due("sound without cells", city.isSound(), true);
    Check.column(city, 0, 3, 'i');
    Check.column(city, 2, 3, 'c');
    city.put(0, 1, 2, 's');
    city.carve(0, 1, 2, 1);
    Check.due("sound with an odd arch", city.isSound(), true);
    city.carve(0, 0, 0, 0);
    Check.due("sound after falling", city.isSound(), true);
    city.weather(7, 200, 200, 30, 100);
    city.go(48);
    city.go(48);
    Check.due("sound after a thaw", city.isSound(), true);
  }
}
