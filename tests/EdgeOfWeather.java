/** Sentences of "What it is", of "Hours and weather" and of promises 1 to 6. */
final class EdgeOfWeather {
  private EdgeOfWeather() {
  }

  static void run() {
    calls();
    newObject();
    clock();
    go();
    days();
    usualWeather();
    dayBegun();
    warmth();
    lastWarmth();
    wet();
  }

  private static void calls() {
    Edge.sentence("An object is used for at most 512 calls after it has been made");
    Snowpalace looked = new Snowpalace();
    for (int i = 1; i < 512; i++) {
      looked.lorries(20);
    }
    Edge.due("the call 512", looked.money(), -511 * 2000);
    Snowpalace visited = new Snowpalace();
    visited.site();
    visited.lorries(1);
    visited.put(0, 0, 0, 's');
    int came = 0;
    for (int i = 4; i <= 512; i++) {
      came = visited.visit(0, 500);
    }
    Edge.due("the call 512 brings the last of the most visitors", came, 509 * 500);
    Snowpalace refused = new Snowpalace();
    for (int i = 1; i < 512; i++) {
      Check.answer(refused::openShare);
    }
    Edge.due("the call 512 behind refused ones", refused.site(), 0);
  }

  private static void newObject() {
    Edge.sentence("Creates a city without sites, snow and ice.");
    Snowpalace city = new Snowpalace();
    Edge.due("snow", city.snow(), 0);
    for (int field = 0; field < 4; field++) {
      Edge.due("ice", city.ice(field), 0);
      Edge.due("clear ice", city.clear(field), 0);
      Edge.due("bears", city.bears(field), false);
    }
    Edge.due("the first site comes later", city.site(), 0);
    Edge.sentence("The clock goes by hours from 0");
    Edge.due("now", new Snowpalace().now(), 0);
    Edge.sentence("Money is 0 at first");
    Edge.due("money", new Snowpalace().money(), 0);
  }

  private static void clock() {
    Edge.sentence("The clock goes by hours from 0, 24 a day, to 504 at most.");
    Snowpalace city = new Snowpalace();
    city.weather(0, -10, -10, 0, 100);
    city.weather(1, -20, -20, 0, 100);
    Edge.due("the last hour of the day 0", city.warmth(23), -10);
    Edge.due("the first hour of the day 1", city.warmth(24), -20);
    Edge.due("the last hour of the day 1", city.warmth(47), -20);
    Edge.due("the first hour of the day 2", city.warmth(48), -150);
    Snowpalace late = Edge.after(Snowpalace::new, 480);
    Edge.due("480", late.now(), 480);
    Edge.due("to 504", late.go(24), 504);
    Edge.due("504", late.now(), 504);
    Edge.due("from 503 on", Edge.after(Snowpalace::new, 503).go(1), 504);
    Edge.due("the most at once to 504", Edge.after(Snowpalace::new, 456).go(48), 504);
  }

  private static void go() {
    Edge.sentence("`hours`: 1 to 48");
    Edge.range("go", "hours", Check.ARGUMENT, 1, 48, Edge::lively, (city, hours) -> city.go(hours));
    Edge.due("1", new Snowpalace().go(1), 1);
    Edge.due("48", new Snowpalace().go(48), 48);
    Edge.sentence("Throws `IllegalStateException` if it would be above 504");
    Edge.refused("go", Check.STATE, () -> Edge.after(Edge::lively, 504 - 145), city -> city.go(1));
    Edge.refused("go", Check.STATE, () -> Edge.after(Edge::lively, 504 - 145), city -> city.go(48));
    Edge.refused("go", Check.STATE, () -> Edge.after(Edge::lively, 503 - 145), city -> city.go(2));
    Edge.refused("go", Check.STATE, () -> Edge.after(Edge::lively, 457 - 145), city -> city.go(48));
    Edge.first("go", Check.ARGUMENT, Check.STATE, () -> Edge.after(Edge::lively, 504 - 145), city -> city.go(49));
    Edge.refused("go", Check.ARGUMENT, () -> Edge.after(Snowpalace::new, 504), city -> city.go(0));
    Edge.refused("go", Check.ARGUMENT, () -> Edge.after(Snowpalace::new, 504), city -> city.go(Edge.MOST));
  }

  private static void days() {
    Edge.sentence("Each day, 0 to 20");
    Edge.range("weather", "day", Check.ARGUMENT, 0, 20, Snowpalace::new, (city, day) -> city.weather(day, 0, 0, 30, 0));
    Edge.refused("weather", Check.ARGUMENT, Edge::lively, city -> city.weather(Edge.WRAPS, 0, 0, 30, 0));
    Edge.sentence("has a low and a high, -400 to 200 tenths of a degree");
    Edge.range("weather", "low", Check.ARGUMENT, -400, 200, Edge::lively, (city, low) -> city.weather(7, low, 200, 30, 0));
    Edge.refused("weather", Check.ARGUMENT, Edge::lively, city -> city.weather(7, -401, -401, 30, 0));
    Edge.refused("weather", Check.ARGUMENT, Edge::lively, city -> city.weather(7, 201, 201, 30, 0));
    Edge.sentence("`high`: the low to 200");
    Edge.range("weather", "high", Check.ARGUMENT, -60, 200, Edge::lively, (city, high) -> city.weather(7, -60, high, 30, 0));
    Edge.range("weather", "high", Check.ARGUMENT, -400, 200, Edge::lively, (city, high) -> city.weather(7, -400, high, 30, 0));
    Edge.range("weather", "high", Check.ARGUMENT, 200, 200, Edge::lively, (city, high) -> city.weather(7, 200, high, 30, 0));
    Edge.sentence("a wind, 0 to 30");
    Edge.range("weather", "wind", Check.ARGUMENT, 0, 30, Edge::lively, (city, wind) -> city.weather(7, 0, 0, wind, 0));
    Edge.sentence("and a humidity, 0 to 100 hundredths");
    Edge.range("weather", "humidity", Check.ARGUMENT, 0, 100, Edge::lively, (city, share) -> city.weather(7, 0, 0, 30, share));
    Edge.sentence("Returns the low before.");
    Snowpalace city = new Snowpalace();
    Edge.due("at first", city.weather(20, -400, 200, 30, 0), -150);
    Edge.due("the least", city.weather(20, 200, 200, 30, 0), -400);
    Edge.due("the most", city.weather(20, 0, 0, 0, 0), 200);
  }

  private static void usualWeather() {
    Edge.sentence("-150 and -50 at first, a wind, 0 to 30, 5 at first, and a humidity, 0 to 100 hundredths, 80 at first.");
    for (int day = 0; day <= 20; day++) {
      Snowpalace city = new Snowpalace();
      Edge.due("low of day " + day, city.warmth(24 * day), -150);
      Edge.due("high of day " + day, city.warmth(24 * day + 12), -50);
      Edge.due("wet warmth by the humidity of day " + day, city.wet(24 * day), -160);
      Edge.due("low before of day " + day, city.weather(day, 0, 0, 0, 0), -150);
    }
    Snowpalace calm = new Snowpalace();
    calm.site();
    calm.lorries(1);
    calm.put(0, 0, 0, 's');
    calm.go(10);
    Edge.due("the usual wind eats nothing", calm.mass(0, 0, 0), 300);
  }

  private static void dayBegun() {
    Edge.sentence("Throws `UnsupportedOperationException` if the day has begun, that is, an hour of it went by");
    Edge.due("before an hour", new Snowpalace().weather(0, 0, 0, 0, 0), -150);
    Edge.due("as the hour 24 begins", Edge.after(Snowpalace::new, 24).weather(1, 0, 0, 0, 0), -150);
    Edge.due("as the hour 480 begins", Edge.after(Snowpalace::new, 480).weather(20, 0, 0, 0, 0), -150);
    Edge.refused("weather", Check.UNSUPPORTED, () -> Edge.after(Snowpalace::new, 1), city -> city.weather(0, 0, 0, 30, 0));
    Edge.refused("weather", Check.UNSUPPORTED, () -> Edge.after(Snowpalace::new, 24), city -> city.weather(0, 0, 0, 30, 0));
    Edge.refused("weather", Check.UNSUPPORTED, () -> Edge.after(Snowpalace::new, 25), city -> city.weather(1, 0, 0, 30, 0));
    Edge.refused("weather", Check.UNSUPPORTED, Edge::lively, city -> city.weather(6, 200, 200, 30, 0));
    Edge.refused("weather", Check.UNSUPPORTED, () -> Edge.after(Edge::lively, 1), city -> city.weather(5, 200, 200, 30, 0));
    Edge.refused("weather", Check.UNSUPPORTED, () -> Edge.after(Snowpalace::new, 481), city -> city.weather(20, 0, 0, 30, 0));
    Edge.refused("weather", Check.UNSUPPORTED, () -> Edge.after(Snowpalace::new, 504), city -> city.weather(20, 0, 0, 30, 0));
    Edge.first("weather", Check.ARGUMENT, Check.UNSUPPORTED, Edge::lively, city -> city.weather(6, 200, 200, 31, 0));
    Edge.refused("weather", Check.ARGUMENT, Edge::lively, city -> city.weather(6, 200, 200, 30, -1));
    Edge.refused("weather", Check.ARGUMENT, Edge::lively, city -> city.weather(0, -401, 200, 30, 0));
    Edge.refused("weather", Check.ARGUMENT, Edge::lively, city -> city.weather(0, 10, 9, 30, 0));
    Edge.refused("weather", Check.ARGUMENT, Edge::lively, city -> city.weather(-1, 0, 0, 30, 0));
  }

  private static void warmth() {
    Edge.sentence("The warmth of an hour is the low, and the difference to the high times the hour of the day up to 12, behind that "
        + "24 less it, divided by 12, cut toward 0");
    Snowpalace city = new Snowpalace();
    city.weather(0, -300, -100, 5, 80);
    Edge.due("hour 0, the low", city.warmth(0), -300);
    Edge.due("hour 11", city.warmth(11), -117);
    Edge.due("hour 12, the high", city.warmth(12), -100);
    Edge.due("hour 13, as hour 11", city.warmth(13), -117);
    Edge.due("hour 23, as hour 1", city.warmth(23), city.warmth(1));
    city.weather(1, -1, 0, 5, 80);
    Edge.due("11 by 12 is cut", city.warmth(24 + 11), -1);
    Edge.due("12 by 12", city.warmth(24 + 12), 0);
    Edge.due("11 by 12 is cut again", city.warmth(24 + 13), -1);
    city.weather(2, -7, -7, 5, 80);
    Edge.due("no difference", city.warmth(48 + 12), -7);
    city.weather(3, -400, 200, 5, 80);
    Edge.due("the least", city.warmth(72), -400);
    Edge.due("the most", city.warmth(72 + 12), 200);
    Edge.sentence("`hour`: 0 to 504");
    Edge.range("warmth", "hour", Check.ARGUMENT, 0, 504, Edge::lively, (each, hour) -> each.warmth(hour));
  }

  private static void lastWarmth() {
    Edge.sentence("of the hour 504 it is -150.");
    Snowpalace city = new Snowpalace();
    city.weather(20, 200, 200, 0, 0);
    Edge.due("hour 503", city.warmth(503), 200);
    Edge.due("hour 504", city.warmth(504), -150);
    Snowpalace late = Edge.after(() -> {
      Snowpalace warm = Edge.snowy();
      warm.weather(20, 200, 200, 0, 0);
      warm.cover(0, true);
      return warm;
    }, 503);
    Edge.due("in the hour 503 snow has no strength", late.put(0, 0, 0, 's'), 0);
    late.go(1);
    Edge.due("in the hour 504 it has all", late.put(0, 0, 0, 's'), 1);
    Edge.due("its strength", late.strength(0, 0, 0), 2500);
    Edge.due("and the slide no more rub", late.squareBits(5, 5, false), new Snowpalace().squareBits(5, 5, false));
  }

  private static void wet() {
    Edge.sentence("The wet warmth is that, less half of how much the humidity is below 100, cut.");
    int[][] cases = {{100, 0}, {99, 0}, {98, 1}, {97, 1}, {1, 49}, {0, 50}};
    for (int[] c : cases) {
      Snowpalace city = new Snowpalace();
      city.weather(0, -7, 11, 0, c[0]);
      city.weather(20, 11, 11, 0, c[0]);
      Edge.due("below 0, humidity " + c[0], city.wet(0), -7 - c[1]);
      Edge.due("above 0, humidity " + c[0], city.wet(12), 11 - c[1]);
      Edge.due("the last hour, humidity " + c[0], city.wet(503), 11 - c[1]);
    }
    Edge.sentence("`hour`: 0 to 503");
    Edge.range("wet", "hour", Check.ARGUMENT, 0, 503, Edge::lively, (city, hour) -> city.wet(hour));
  }
}
