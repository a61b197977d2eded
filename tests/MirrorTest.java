/** All promises: random runs of 512 calls, each answer held against that of the Mirror; always the same runs. */
public final class MirrorTest {
  private static final int RUNS = 400;
  private static long seed;

  private Snowpalace city;
  private Mirror mirror;
  private String told;

  public static void main(String[] args) {
    int calls = 0;
    int[] thrown = new int[2];
    long fell = 0;
    for (int run = 0; run < RUNS; run++) {
      seed = 7919L * run + 13;
      MirrorTest test = new MirrorTest();
      test.city = new Snowpalace();
      test.mirror = new Mirror();
      test.told = "run " + run + ", opening: ";
      int opening = run % 2 == 0 ? 0 : test.opening();
      for (int i = opening; i < 512; i++) {
        test.told = "run " + run + ", call " + i + ": ";
        String answer = test.call(run % 4);
        thrown[answer.startsWith("java.") ? 1 : 0]++;
        calls++;
      }
      for (int site = 0; site < test.mirror.sites.size(); site++) {
        fell += test.mirror.fell(site);
      }
    }
    System.out.println(calls + " calls, " + thrown[1] + " of them threw, " + fell + " cells fell");
    Check.due("cells fell", fell > 1000, true);
    Check.end();
  }

  /** Half of the runs begin with both kinds of blocks, snow and a site; returns how many calls that took. */
  private int opening() {
    int[] warmths = {-400, 200, 200, -99, -99, -99};
    int calls = 0;
    for (int day = 0; day < 6; day++) {
      final int d = day;
      same("weather", () -> city.weather(d, warmths[d], warmths[d], 0, 100), () -> mirror.weather(d, warmths[d], warmths[d], 0, 100));
      calls++;
    }
    for (int day = 0; day < 6; day++) {
      same("go(24)", () -> city.go(24), () -> mirror.go(24));
      calls++;
      for (int i = 0; i < 4 && day % 5 == 0; i++) {
        final int field = (day == 0 ? 0 : 2) + i / 2;
        same("cut", () -> city.cut(field, 20), () -> mirror.cut(field, 20));
        same("lorries", () -> city.lorries(20), () -> mirror.lorries(20));
        calls += 2;
      }
    }
    same("site()", () -> city.site(), () -> mirror.site());
    return calls + 1;
  }

  private static int pick(int least, int most) {
    seed = seed * 6364136223846793005L + 1442695040888963407L;
    return least + (int) ((seed >>> 33) % (most - least + 1));
  }

  /** Mostly within the range, sometimes just beside it. */
  private static int near(int least, int most) {
    return pick(0, 30) == 0 ? (pick(0, 1) == 0 ? least - 1 : most + 1) : pick(least, most);
  }

  private String same(String call, Check.Call ours, Check.Call due) {
    Object got = Check.answer(ours);
    Object want = Check.answer(due);
    Check.due(told + call, got, want);
    return String.valueOf(got);
  }

  private int site() {
    return pick(0, 40) == 0 ? pick(-1, 3) : pick(0, Math.max(0, mirror.sites.size() - 1));
  }

  private String call(int manner) {
    int which = pick(0, 99);
    if (which < 30) {
      return put();
    }
    if (which < 38) {
      return manner == 3 ? put() : hours(manner);
    }
    if (which < 42) {
      return weather(manner);
    }
    if (which < 52) {
      return stuff();
    }
    if (which < 70) {
      return change();
    }
    return look();
  }

  private String put() {
    int s = site();
    int x = near(0, 7);
    int tries = pick(0, 5);
    int free = 0;
    if (s >= 0 && s < mirror.sites.size() && x >= 0 && x < 8) {
      while (free < 5 && mirror.at(s, x, free) != '.') {
        free++;
      }
    }
    int y = tries < 3 ? free : near(0, 5);
    char kind = pick(0, 50) == 0 ? 'x' : "sic".charAt(pick(0, 2));
    return same("put(" + s + ", " + x + ", " + y + ", " + kind + ")", () -> city.put(s, x, y, kind), () -> mirror.put(s, x, y, kind));
  }

  private String hours(int manner) {
    int hours = pick(0, 20) == 0 ? near(1, 48) : manner == 0 ? near(1, 30) : near(1, 8);
    return same("go(" + hours + ")", () -> city.go(hours), () -> mirror.go(hours));
  }

  private String weather(int manner) {
    int day = pick(0, 2) == 0 ? near(0, 20) : Math.min(20, mirror.clock / 24 + pick(0, 2));
    int low = manner == 1 ? near(-400, -90) : manner == 2 ? near(-120, 60) : near(-400, 200);
    int high = Math.min(200, low + pick(0, 200)) - (pick(0, 40) == 0 ? 300 : 0);
    int wind = near(0, 30);
    int humidity = near(0, 100);
    return same("weather(" + day + ", " + low + ", " + high + ", " + wind + ", " + humidity + ")",
        () -> city.weather(day, low, high, wind, humidity), () -> mirror.weather(day, low, high, wind, humidity));
  }

  private String stuff() {
    int field = near(0, 3);
    int many = near(1, 20);
    boolean is = pick(0, 1) == 0;
    switch (pick(0, 3)) {
      case 0:
        return same("lorries(" + many + ")", () -> city.lorries(many), () -> mirror.lorries(many));
      case 1:
        return same("machine(" + is + ")", () -> city.machine(is), () -> mirror.machine(is));
      case 2:
        return same("cut(" + field + ", " + many + ")", () -> city.cut(field, many), () -> mirror.cut(field, many));
      default:
        return same("site()", () -> city.site(), () -> mirror.site());
    }
  }

  private String change() {
    int s = site();
    int x = near(0, 7);
    int y = pick(0, 1) == 0 ? 0 : near(0, 5);
    boolean is = pick(0, 3) != 0;
    int mass = pick(0, 3) == 0 ? 0 : near(0, 200);
    int people = near(1, 500);
    String place = "(" + s + ", " + x + ", " + y;
    switch (pick(0, 7)) {
      case 0:
        return same("cover(" + s + ", " + is + ")", () -> city.cover(s, is), () -> mirror.cover(s, is));
      case 1:
      case 2:
        return same("lamp" + place + ", " + is + ")", () -> city.lamp(s, x, y, is), () -> mirror.lamp(s, x, y, is));
      case 3:
        return same("visit(" + s + ", " + people + ")", () -> city.visit(s, people), () -> mirror.visit(s, people));
      case 4:
        return same("plan" + place + ", " + is + ")", () -> city.plan(s, x, y, is), () -> mirror.plan(s, x, y, is));
      case 5:
        return same("carve" + place + ", " + mass + ")", () -> city.carve(s, x, y, mass), () -> mirror.carve(s, x, y, mass));
      case 6:
        return same("judge(" + s + ")", () -> city.judge(s), () -> mirror.judge(s));
      default:
        return same("take" + place + ")", () -> city.take(s, x, y), () -> mirror.take(s, x, y));
    }
  }

  private String look() {
    int s = site();
    int x = near(0, 7);
    int y = near(0, 5);
    int hour = near(0, 504);
    int field = near(0, 3);
    int drop = near(1, 20);
    int length = near(5, 60);
    boolean mat = pick(0, 1) == 0;
    same("warmth(" + hour + ")", () -> city.warmth(hour), () -> mirror.warmth(hour));
    same("wet(" + hour + ")", () -> city.wet(hour), () -> mirror.wet(hour));
    same("ice(" + field + ")", () -> city.ice(field), () -> mirror.ice(field));
    same("clear(" + field + ")", () -> city.clear(field), () -> mirror.clear(field));
    same("bears(" + field + ")", () -> city.bears(field), () -> mirror.bears(field));
    same("yard(true)", () -> city.yard(true), () -> mirror.yard(true));
    same("yard(false)", () -> city.yard(false), () -> mirror.yard(false));
    same("snow()", () -> city.snow(), () -> mirror.snow);
    same("money()", () -> city.money(), () -> mirror.money);
    same("now()", () -> city.now(), () -> mirror.clock);
    same("squareBits", () -> city.squareBits(drop, length, mat), () -> mirror.squareBits(drop, length, mat));
    same("openShare()", () -> city.openShare(), () -> mirror.openShare());
    same("checksum()", () -> city.checksum(), () -> mirror.checksum());
    same("isSound()", () -> city.isSound(), () -> mirror.isSound());
    lookAtSite(s);
    return lookAtCell(s, x, y);
  }

  private void lookAtSite(int s) {
    same("fell(" + s + ")", () -> city.fell(s), () -> mirror.fell(s));
    same("lastFell(" + s + ")", () -> city.lastFell(s), () -> mirror.lastFell(s));
    same("isOpen(" + s + ")", () -> city.isOpen(s), () -> mirror.isOpen(s));
    same("hours(" + s + ")", () -> city.hours(s), () -> mirror.hours(s));
    same("mark(" + s + ")", () -> city.mark(s), () -> mirror.mark(s));
    same("count(" + s + ")", () -> city.count(s), () -> mirror.count(s));
    same("meanCreep(" + s + ")", () -> city.meanCreep(s), () -> mirror.meanCreep(s));
  }

  private String lookAtCell(int s, int x, int y) {
    String place = "(" + s + ", " + x + ", " + y + ")";
    same("carries" + place, () -> city.carries(s, x), () -> mirror.carries(s, x));
    same("mass" + place, () -> city.mass(s, x, y), () -> mirror.mass(s, x, y));
    same("load" + place, () -> city.load(s, x, y), () -> mirror.load(s, x, y));
    same("strength" + place, () -> city.strength(s, x, y), () -> mirror.strength(s, x, y));
    same("creep" + place, () -> city.creep(s, x, y), () -> mirror.creep(s, x, y));
    same("age" + place, () -> city.age(s, x, y), () -> mirror.age(s, x, y));
    same("isArch" + place, () -> city.isArch(s, x, y), () -> mirror.isArch(s, x, y));
    same("lightBits" + place, () -> city.lightBits(s, x, y), () -> mirror.lightBits(s, x, y));
    return same("at" + place, () -> city.at(s, x, y), () -> mirror.at(s, x, y));
  }
}
