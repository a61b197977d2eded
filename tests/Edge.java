import java.io.IOException;
import java.nio.file.Files;
import java.nio.file.Path;
import java.util.ArrayList;
import java.util.Arrays;
import java.util.List;
import java.util.TreeSet;
import java.util.regex.Matcher;
import java.util.regex.Pattern;

/**
 * For tests of single sentences: each stands under the document's own words, and a ledger tells at the end which words,
 * which ranges and which exceptions of the document have no test.
 */
final class Edge {
  /** Makes the same city each time, so that a refused call on one can be held against one without that call. */
  interface Recipe {
    Snowpalace make();
  }

  interface Asked {
    Object of(Snowpalace city);
  }

  interface AskedNumber {
    Object of(Snowpalace city, int number);
  }

  interface AskedPlace {
    Object of(Snowpalace city, int site, int x, int y);
  }

  static final int LEAST = Integer.MIN_VALUE;
  static final int MOST = Integer.MAX_VALUE;
  /** 8 times this, and 16 times 8 times this, wrap round to 0. */
  static final int WRAPS = 1 << 29;

  /** Wrong x and y, some of which make a right place if 8 times y plus x is looked at alone. */
  private static final int[][] NO_PLACES = {{-1, 0}, {8, 0}, {0, -1}, {0, 6}, {-8, 1}, {-1, 1}, {8, -1}, {15, -1}, {48, 0}, {7, 6},
      {LEAST, 0}, {MOST, 0}, {0, LEAST}, {0, MOST}, {0, WRAPS}, {7, WRAPS}, {7, -WRAPS}};
  /** Places that the cities corners and nearlyCorners are made for: the lowest and the highest row, both ends. */
  private static final int[][] CORNERS = {{0, 0, 0}, {0, 7, 0}, {2, 0, 5}, {2, 7, 5}};

  /** What of the document is not for a test of a sentence: the face, which FaceTest holds the program against, and what is free. */
  private static final String[] NO_SENTENCES = {"# Snowpalace", "## What it is", "; what later calls answer is free.",
      "## The public face\\s+```java.*?```", "## Terms", "<h2>[^<]*</h2>", "## Promise \\d+: [^\\n]*", "(?<=\\n)`[^`]*\\)( throws [^`]*)?`:",
      "## Not promised.*"};
  /** Lines that the ledger of ranges and exceptions asks for, method by method. */
  private static final String[] LEDGER_LINES = {"- `(site|x|y)`: [^\\n]*", "- `\\w+`: [^\\n]* to [^\\n]*", "Throws `[^\\n]*"};

  private static final TreeSet<String> tested = new TreeSet<>();
  private static String doc = "";
  private static String plainDoc = "";
  /** By the signs of plainDoc: whether a sentence that was tested holds it. */
  private static boolean[] told = new boolean[0];
  private static String words = "";
  private static int asked = 1;
  private static int sentences = 0;

  private Edge() {
  }

  static void read(Path file) throws IOException {
    doc = Files.readString(file);
    plainDoc = plain(doc);
    told = new boolean[plainDoc.length()];
  }

  private static String plain(String text) {
    return text.replaceAll("\\s+", " ");
  }

  /** The sentence, or the part of it, that what follows tests; it must stand in the document word by word. */
  static void sentence(String said) {
    begin(said);
    Check.due("the document says: " + said, plainDoc.contains(plain(said)), true);
    int promises = plainDoc.indexOf(" ## Promise 1:");
    boolean isOnce = plainDoc.indexOf(plain(said)) == plainDoc.lastIndexOf(plain(said));
    tell(plain(said), 0, isOnce ? plainDoc.length() : promises);
  }

  /** As sentence, of words that a promise says, perhaps as others do. */
  static void promise(int number, String said) {
    begin(number + ": " + said);
    int from = plainDoc.indexOf("## Promise " + number + ":");
    int to = plainDoc.indexOf(" ## ", from);
    Check.due("the promise " + number + " says: " + said, from >= 0 && plainDoc.substring(from, to).contains(plain(said)), true);
    tell(plain(said), Math.max(0, from), to);
  }

  private static void begin(String said) {
    Check.due("a test of: " + words, asked > 0, true);
    words = said;
    asked = 0;
    sentences++;
  }

  private static void tell(String said, int from, int to) {
    for (int at = plainDoc.indexOf(said, from); at >= 0 && at + said.length() <= to; at = plainDoc.indexOf(said, at + 1)) {
      Arrays.fill(told, at, at + said.length(), true);
    }
  }

  static void due(String what, Object got, Object want) {
    asked++;
    Check.due("[" + words + "] " + what, got, want);
  }

  /** The call must throw just this exception, and what can be seen before or behind it must be as without the call. */
  static void refused(String method, Class<?> want, Recipe recipe, Asked call) {
    tested.add(method + " throws " + want.getSimpleName());
    for (int look = 0; look < LOOKS.length; look++) {
      Snowpalace with = recipe.make();
      Snowpalace without = recipe.make();
      Object got = Check.answer(() -> call.of(with));
      due(method + " refused", got, want.getName());
      due(method + " refused, but it changed something", seen(look, with), seen(look, without));
    }
  }

  /** As refused, where both exceptions apply and the first is listed first. */
  static void first(String method, Class<?> want, Class<?> other, Recipe recipe, Asked call) {
    tested.add(method + " throws " + want.getSimpleName() + " ahead of " + other.getSimpleName());
    refused(method, want, recipe, call);
  }

  /** Two exceptions that can't apply at once. */
  static void neverBoth(String method, Class<?> one, Class<?> other, String why) {
    due("a reason for " + method, why.isEmpty(), false);
    tested.add(method + " throws " + one.getSimpleName() + " ahead of " + other.getSimpleName());
  }

  /** An exception that no calls can bring about. */
  static void never(String method, Class<?> want, String why) {
    due("a reason for " + method, why.isEmpty(), false);
    tested.add(method + " throws " + want.getSimpleName());
  }

  static void allowed(String method, Recipe recipe, Asked call) {
    Snowpalace city = recipe.make();
    Object got = Check.answer(() -> call.of(city));
    due(method + " is allowed, and answered " + got, String.valueOf(got).startsWith("java."), false);
  }

  /** The least and the most are allowed, what is beside them and the ends of int are refused. */
  static void range(String method, String parameter, Class<?> want, int least, int most, Recipe recipe, AskedNumber call) {
    tested.add(method + " takes " + parameter);
    for (int number : new int[] {least, most}) {
      allowed(method + ", " + parameter + " " + number, recipe, city -> call.of(city, number));
    }
    for (int number : new int[] {least - 1, most + 1, LEAST, MOST}) {
      refused(method, want, recipe, city -> call.of(city, number));
    }
  }

  /** A method with site, x and y: the corners of the first and the last site are places, all beside them is none. */
  static void places(String method, Recipe threeSites, Recipe oneSite, AskedPlace call) {
    tested.addAll(List.of(method + " takes site", method + " takes x", method + " takes y"));
    for (int[] c : CORNERS) {
      allowed(method + " at " + Arrays.toString(c), threeSites, city -> call.of(city, c[0], c[1], c[2]));
    }
    for (int site : new int[] {-1, 3, LEAST, MOST}) {
      refused(method, Check.INDEX, threeSites, city -> call.of(city, site, 0, 0));
    }
    for (int site : new int[] {1, 2}) {
      refused(method, Check.INDEX, oneSite, city -> call.of(city, site, 0, 0));
    }
    refused(method, Check.INDEX, Snowpalace::new, city -> call.of(city, 0, 0, 0));
    for (int[] p : NO_PLACES) {
      refused(method, Check.INDEX, threeSites, city -> call.of(city, 2, p[0], p[1]));
    }
  }

  /** A method with a site alone: the first and the last are there, all beside them is none. */
  static void sites(String method, Recipe threeSites, Recipe oneSite, AskedNumber call) {
    range(method, "site", Check.INDEX, 0, 2, threeSites, call);
    for (int site : new int[] {1, 2}) {
      refused(method, Check.INDEX, oneSite, city -> call.of(city, site));
    }
    refused(method, Check.INDEX, Snowpalace::new, city -> call.of(city, 0));
  }

  // ---- cities

  /** Three sites: the first with a cell at each end of the ground, the last with a full column at each end; one fell at each. */
  static Snowpalace corners() {
    Snowpalace city = nearlyCorners();
    for (int x = 0; x < 8; x += 7) {
      city.put(0, x, 0, 'c');
      city.put(2, x, 5, 'c');
    }
    for (int site = 0; site < 3; site++) {
      city.put(site, 4, 0, 'c');
      city.put(site, 4, 1, 's');
      city.carve(site, 4, 0, 0);
    }
    for (int site = 0; site < 3; site++) {
      city.put(site, 4, 0, 's');
      city.judge(site);
    }
    return city;
  }

  /** The same with one site. */
  static Snowpalace oneSite() {
    Snowpalace city = Check.clearStock();
    for (int x = 0; x < 8; x += 7) {
      city.put(0, x, 0, 'c');
    }
    return city;
  }

  /** Three sites: the first without cells, the last with a column at each end that lacks the highest cell. */
  static Snowpalace nearlyCorners() {
    Snowpalace city = Check.clearStock();
    city.site();
    city.site();
    for (int y = 0; y < 5; y++) {
      city.put(2, 0, y, 'c');
      city.put(2, 7, y, 'c');
    }
    return city;
  }

  /** At hour 145: a city of which much has been used: cells of all kinds, an arch, a lamp, a cover, visitors, a plan, a mark. */
  static Snowpalace lively() {
    Snowpalace city = Check.mixedStock();
    city.site();
    Check.column(city, 1, 3, 'i');
    Check.column(city, 3, 2, 'c');
    city.put(0, 2, 1, 'i');
    city.lamp(0, 2, 1, true);
    city.put(0, 7, 0, 's');
    city.put(0, 7, 1, 's');
    city.carve(0, 7, 0, 0);
    city.carve(0, 1, 2, 30);
    city.put(1, 0, 0, 's');
    city.cover(1, true);
    city.visit(0, 20);
    city.visit(1, 3);
    city.plan(0, 1, 0, true);
    city.plan(1, 7, 5, true);
    city.judge(0);
    city.machine(true);
    city.go(1);
    return city;
  }

  /** All days with the same warmth, no wind, the air full of water. */
  static Snowpalace always(int warmth) {
    Snowpalace city = new Snowpalace();
    for (int day = 0; day <= 20; day++) {
      city.weather(day, warmth, warmth, 0, 100);
    }
    return city;
  }

  /** 500 snow and a site without cells, always at -10 degrees without wind: no sun, no strength lost. */
  static Snowpalace snowy() {
    Snowpalace city = always(-100);
    for (int i = 0; i < 5; i++) {
      city.lorries(20);
    }
    city.site();
    return city;
  }

  static Snowpalace after(Recipe recipe, int hours) {
    Snowpalace city = recipe.make();
    for (int left = hours; left > 0; left -= 48) {
      city.go(Math.min(48, left));
    }
    return city;
  }

  // ---- what can be seen of a city; each look for itself stays below the 512 calls of an object

  private interface Look {
    void at(Snowpalace city, StringBuilder seen);
  }

  private static final Look[] LOOKS = {Edge::weatherOf, Edge::stuffOf, Edge::aheadOf, (city, seen) -> siteOf(city, 0, seen),
      (city, seen) -> siteOf(city, 1, seen), (city, seen) -> siteOf(city, 2, seen), (city, seen) -> cellsOf(city, 0, seen),
      (city, seen) -> cellsOf(city, 1, seen), (city, seen) -> cellsOf(city, 2, seen)};

  private static String seen(int look, Snowpalace city) {
    StringBuilder seen = new StringBuilder();
    LOOKS[look].at(city, seen);
    return seen.toString();
  }

  private static void see(StringBuilder seen, Check.Call asks) {
    seen.append(Check.answer(asks)).append(' ');
  }

  private static void weatherOf(Snowpalace city, StringBuilder seen) {
    for (int day = 0; day <= 20; day++) {
      for (int hour = 24 * day; hour < 24 * day + 24; hour += 4) {
        seen.append(city.warmth(hour)).append('/').append(city.wet(hour)).append(' ');
      }
    }
    seen.append(city.now()).append(' ').append(city.squareBits(5, 20, true)).append(' ').append(city.squareBits(5, 20, false));
  }

  private static void stuffOf(Snowpalace city, StringBuilder seen) {
    seen.append(city.now()).append(' ').append(city.money()).append(' ').append(city.snow()).append(' ');
    seen.append(city.yard(true)).append(' ').append(city.yard(false)).append(' ').append(city.checksum()).append(' ');
    seen.append(city.isSound()).append(' ').append(city.machine(true)).append(' ');
    see(seen, city::openShare);
    for (int field = 0; field < 4; field++) {
      final int f = field;
      seen.append(city.ice(f)).append('/').append(city.clear(f)).append('/').append(city.bears(f)).append(' ');
      see(seen, () -> city.cut(f, 1));
    }
    see(seen, city::site);
  }

  /** What comes of it: winds, covers and all that is not told shows in the hours to come. */
  private static void aheadOf(Snowpalace city, StringBuilder seen) {
    for (int i = 0; i < 12; i++) {
      see(seen, () -> city.go(12));
      seen.append(city.money()).append(' ').append(city.checksum()).append(' ').append(city.snow()).append(' ');
      for (int site = 0; site < 3; site++) {
        final int s = site;
        see(seen, () -> city.fell(s));
      }
    }
  }

  private static void siteOf(Snowpalace city, int site, StringBuilder seen) {
    see(seen, () -> city.count(site));
    see(seen, () -> city.fell(site));
    see(seen, () -> city.lastFell(site));
    see(seen, () -> city.isOpen(site));
    see(seen, () -> city.hours(site));
    see(seen, () -> city.mark(site));
    see(seen, () -> city.meanCreep(site));
    see(seen, () -> city.judge(site));
    see(seen, () -> city.visit(site, 1));
    see(seen, () -> city.cover(site, true));
    for (int x = 0; x < 8; x++) {
      final int column = x;
      see(seen, () -> city.carries(site, column));
    }
    for (int place = 0; place < 48; place++) {
      final int p = place;
      see(seen, () -> city.plan(site, p % 8, p / 8, true));
    }
  }

  private static void cellsOf(Snowpalace city, int site, StringBuilder seen) {
    List<int[]> cells = new ArrayList<>();
    for (int place = 0; place < 48; place++) {
      final int x = place % 8;
      final int y = place / 8;
      Object kind = Check.answer(() -> city.at(site, x, y));
      seen.append(kind).append(' ');
      see(seen, () -> city.lightBits(site, x, y));
      if (kind instanceof Character && (char) kind != '.') {
        cells.add(new int[] {x, y});
      }
    }
    for (int[] c : cells) {
      seen.append(city.mass(site, c[0], c[1])).append('/').append(city.load(site, c[0], c[1])).append('/');
      seen.append(city.strength(site, c[0], c[1])).append('/').append(city.creep(site, c[0], c[1])).append('/');
      seen.append(city.age(site, c[0], c[1])).append('/').append(city.isArch(site, c[0], c[1])).append('/');
      seen.append(city.lamp(site, c[0], c[1], false)).append(' ');
    }
  }

  // ---- the ledger

  /**
   * Each sentence must have been tested, each range and each exception that a promise lists, and each two exceptions in
   * their order.
   */
  static void ledger() {
    begin("nothing more");
    noSentences();
    for (int at = 0; at < told.length; at++) {
      int to = at;
      while (to < told.length && !told[to]) {
        to++;
      }
      String untold = plainDoc.substring(at, to);
      Check.due("a test of the words: " + untold, untold.chars().anyMatch(Character::isLetterOrDigit), false);
      at = to;
    }
    int promises = 0;
    for (String promise : doc.substring(doc.indexOf("## Promise 1:")).split("## Promise ")) {
      if (!promise.isBlank()) {
        promises++;
        String method = promise.substring(promise.indexOf(": ") + 2, promise.indexOf('\n')).strip();
        ledgerOf(method, promise);
      }
    }
    Check.due("promises in the ledger", promises, 44);
    System.out.println(sentences + " sentences, " + tested.size() + " ranges, exceptions and orders of exceptions");
  }

  private static void noSentences() {
    List<String> all = new ArrayList<>(List.of(NO_SENTENCES));
    all.addAll(List.of(LEDGER_LINES));
    for (String each : all) {
      Matcher found = Pattern.compile(each, Pattern.DOTALL).matcher(doc);
      int times = 0;
      while (found.find()) {
        int at = plain(doc.substring(0, found.start())).length();
        Arrays.fill(told, at, Math.min(told.length, at + plain(found.group()).length()), true);
        times++;
      }
      Check.due("the document holds " + each, times > 0, true);
    }
  }

  private static void ledgerOf(String method, String promise) {
    List<String> thrown = new ArrayList<>();
    for (String line : promise.split("\n")) {
      if (line.startsWith("Throws `")) {
        thrown.add(line.split("`")[1]);
      }
      if (line.startsWith("- `") && (line.contains(" to ") || line.matches("- `(site|x|y)`.*")) && !line.contains("whether")) {
        need(method + " takes " + line.split("`")[1]);
      }
    }
    for (int i = 0; i < thrown.size(); i++) {
      need(method + " throws " + thrown.get(i));
      for (int later = i + 1; later < thrown.size(); later++) {
        need(method + " throws " + thrown.get(i) + " ahead of " + thrown.get(later));
      }
    }
  }

  private static void need(String what) {
    Check.due("a test that " + what, tested.contains(what), true);
  }
}
