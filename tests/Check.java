import java.util.Objects;

/** What the tests have in common: it counts answers that are not as due, and looks at a whole city. */
final class Check {
  static final Class<IllegalArgumentException> ARGUMENT = IllegalArgumentException.class;
  static final Class<IllegalStateException> STATE = IllegalStateException.class;
  static final Class<UnsupportedOperationException> UNSUPPORTED = UnsupportedOperationException.class;
  static final Class<IndexOutOfBoundsException> INDEX = IndexOutOfBoundsException.class;
  static final Class<java.util.NoSuchElementException> NO_ELEMENT = java.util.NoSuchElementException.class;
  static final Class<ArithmeticException> ARITHMETIC = ArithmeticException.class;

  private static int asked = 0;
  private static int wrong = 0;

  interface Call {
    Object run();
  }

  private Check() {
  }

  static void due(String call, Object got, Object want) {
    asked++;
    if (!Objects.equals(got, want)) {
      wrong++;
      System.out.println(call + " answered " + got + ", due is " + want);
    }
  }

  /** The call must throw just this exception, and change nothing. */
  static void fails(String call, Snowpalace city, Class<?> want, Call asks) {
    String before = all(city);
    due(call, thrownBy(asks), want);
    due(call + " changed something", all(city), before);
  }

  private static Object thrownBy(Call asks) {
    try {
      return "no exception but " + asks.run();
    } catch (RuntimeException e) {
      return e.getClass();
    }
  }

  static Object answer(Call asks) {
    try {
      return asks.run();
    } catch (RuntimeException e) {
      return e.getClass().getName();
    }
  }

  /** All that can be seen of a city without changing it. */
  static String all(Snowpalace city) {
    StringBuilder seen = new StringBuilder();
    seen.append(city.now()).append(' ').append(city.money()).append(' ').append(city.snow()).append(' ');
    seen.append(city.yard(true)).append(' ').append(city.yard(false)).append(' ');
    seen.append(city.checksum()).append(' ').append(city.isSound()).append(' ').append(answer(city::openShare));
    boolean was = city.machine(true);
    city.machine(was);
    seen.append(' ').append(was);
    for (int hour = 0; hour <= 504; hour++) {
      final int h = hour;
      seen.append(' ').append(city.warmth(h)).append('/').append(answer(() -> city.wet(h)));
    }
    for (int field = 0; field < 4; field++) {
      seen.append("\nfield ").append(city.ice(field)).append(' ').append(city.clear(field)).append(' ').append(city.bears(field));
    }
    for (int drop = 1; drop <= 20; drop += 4) {
      seen.append(' ').append(city.squareBits(drop, 20, true)).append(' ').append(city.squareBits(drop, 20, false));
    }
    for (int site = 0; site < 3; site++) {
      seen.append("\nsite ").append(site).append(allOf(city, site));
    }
    return seen.toString();
  }

  private static String allOf(Snowpalace city, int site) {
    StringBuilder seen = new StringBuilder();
    seen.append(answer(() -> city.count(site))).append(' ').append(answer(() -> city.fell(site)));
    seen.append(' ').append(answer(() -> city.lastFell(site))).append(' ').append(answer(() -> city.isOpen(site)));
    seen.append(' ').append(answer(() -> city.hours(site))).append(' ').append(answer(() -> city.mark(site)));
    seen.append(' ').append(answer(() -> city.meanCreep(site)));
    for (int x = 0; x < 8; x++) {
      final int column = x;
      seen.append(' ').append(answer(() -> city.carries(site, column)));
    }
    for (int place = 0; place < 48; place++) {
      final int x = place % 8;
      final int y = place / 8;
      seen.append('\n').append(answer(() -> city.at(site, x, y))).append(' ').append(answer(() -> city.mass(site, x, y)));
      seen.append(' ').append(answer(() -> city.load(site, x, y))).append(' ').append(answer(() -> city.strength(site, x, y)));
      seen.append(' ').append(answer(() -> city.creep(site, x, y))).append(' ').append(answer(() -> city.age(site, x, y)));
      seen.append(' ').append(answer(() -> city.isArch(site, x, y))).append(' ').append(answer(() -> city.lightBits(site, x, y)));
    }
    return seen.toString();
  }

  /** Ends the test, with the exit code 1 if an answer was not as due. */
  static void end() {
    if (wrong != 0) {
      System.out.println(wrong + " of " + asked + " answers are not as due");
      System.exit(1);
    }
    System.out.println("all " + asked + " answers are as due");
  }

  // ---- cities that several tests begin with

  /** At hour 24: 160 clear blocks, no others, 200 snow, one site without cells; no wind, from here on -10 degrees. */
  static Snowpalace clearStock() {
    Snowpalace city = new Snowpalace();
    city.weather(0, -400, -400, 0, 100);
    for (int day = 1; day <= 20; day++) {
      city.weather(day, -100, -100, 0, 100);
    }
    city.go(24);
    for (int field = 0; field < 4; field++) {
      city.cut(field, 20);
      city.cut(field, 20);
    }
    city.lorries(20);
    city.lorries(20);
    city.site();
    return city;
  }

  /** At hour 144: 80 clear blocks, 80 others, 500 snow, one site without cells; no wind, from here on -10 degrees. */
  static Snowpalace mixedStock() {
    Snowpalace city = new Snowpalace();
    city.weather(0, -400, -400, 0, 100);
    city.weather(1, 200, 200, 0, 100);
    city.weather(2, 200, 200, 0, 100);
    city.weather(3, -99, -99, 0, 100);
    city.weather(4, -99, -99, 0, 100);
    city.weather(5, -99, -99, 0, 100);
    for (int day = 6; day <= 20; day++) {
      city.weather(day, -100, -100, 0, 100);
    }
    city.go(24);
    for (int i = 0; i < 4; i++) {
      city.cut(i / 2, 20);
    }
    city.go(48);
    city.go(48);
    city.go(24);
    for (int i = 0; i < 4; i++) {
      city.cut(2 + i / 2, 20);
    }
    for (int i = 0; i < 5; i++) {
      city.lorries(20);
    }
    city.site();
    return city;
  }

  /** Puts a column of so many cells of a kind, from the ground on, at the site 0. */
  static void column(Snowpalace city, int x, int high, char kind) {
    for (int y = 0; y < high; y++) {
      city.put(0, x, y, kind);
    }
  }
}
