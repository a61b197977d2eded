import java.util.NoSuchElementException;

/** A city of snow and ice for three weeks; the document ../shared/DOC.md tells what it must do. */
public final class Snowpalace {

  private static final int DAYS = 21;
  private static final int DAY_HOURS = 24;
  private static final int NOON = 12;
  private static final int LAST_HOUR = 504;
  private static final int USUAL_LOW = -150;
  private static final int USUAL_HIGH = -50;
  private static final int USUAL_WIND = 5;
  private static final int USUAL_HUMIDITY = 80;
  private static final int COLDEST = -400;
  private static final int WARMEST = 200;
  private static final int STRONGEST_WIND = 30;
  private static final int FULL_HUMIDITY = 100;
  private static final int MOST_HOURS_AT_ONCE = 48;

  private static final int FIELDS = 4;
  private static final int FIELD_PLACES = 40;
  private static final int BEARING_ICE = 250;
  private static final int BEARING_PLACES = 20;
  private static final int CUTTING_ICE = 300;
  private static final int CLEAR_GROWTH_WARMTH = -100;
  private static final int MOST_CUT_AT_ONCE = 20;
  private static final int YARD_ROOM = 200;

  private static final int SNOW_ROOM = 500;
  private static final int LORRY_SNOW = 5;
  private static final int MOST_LORRIES_AT_ONCE = 20;
  private static final int MACHINE_SNOW = 2;
  private static final int MACHINE_WET_WARMTH = -20;
  private static final int CELL_SNOW = 4;

  private static final int SITES = 3;
  private static final int WIDE = 8;
  private static final int HIGH = 6;
  private static final int CELLS = 48;
  private static final char NONE = '.';
  private static final char SNOW = 's';
  private static final char BLOCK = 'i';
  private static final char CLEAR_BLOCK = 'c';
  private static final int FALLING_MASS = 100;
  private static final int STRENGTHENING_HOURS = 48;
  private static final int LAMP_WEAKENS = 500;
  private static final int WEAKENING_WARMTH = -50;
  private static final int OPEN_CREEP = 200;
  private static final int SUN_FROM = 10;
  private static final int SUN_TO = 14;
  private static final int SUN_WARMTH = -100;
  private static final int EATING_WIND = 10;
  private static final int NO_PLACE = -1;

  private static final int CARVING_HOURS = 60;
  private static final int MOST_CARVED_AT_ONCE = 200;
  private static final int MOST_CARRIED = 99;
  private static final int PERSON_MASS = 70;
  private static final int MOST_VISITORS_AT_ONCE = 500;

  private static final int LORRY_COST = 100;
  private static final int BLOCK_COST = 20;
  private static final int CELL_COST = 10;
  private static final int LAMP_COST = 50;
  private static final int COVER_COST = 300;
  private static final int FALL_COST = 200;
  private static final int VISITOR_BRINGS = 5;

  private final Sky sky;
  private final River river;
  private final Site[] sites;
  private int siteCount;
  private int clock;
  private int clearBlocks;
  private int otherBlocks;
  private int storedSnow;
  private boolean machineIsOn;
  private int funds;

  public Snowpalace() {
    sky = new Sky();
    river = new River();
    sites = new Site[SITES];
    siteCount = 0;
    clock = 0;
    clearBlocks = 0;
    otherBlocks = 0;
    storedSnow = 0;
    machineIsOn = false;
    funds = 0;
  }

  // ---- hours and weather

  public int weather(int day, int low, int high, int wind, int humidity)
      throws IllegalArgumentException, UnsupportedOperationException {
    if (!isWithin(day, 0, DAYS - 1) || !isWithin(low, COLDEST, WARMEST) || !isWithin(high, low, WARMEST)
        || !isWithin(wind, 0, STRONGEST_WIND) || !isWithin(humidity, 0, FULL_HUMIDITY)) {
      throw new IllegalArgumentException("a number is out of range");
    }
    if (clock > DAY_HOURS * day) {
      throw new UnsupportedOperationException("the day has begun");
    }
    int before = sky.lows[day];
    sky.lows[day] = low;
    sky.highs[day] = high;
    sky.winds[day] = wind;
    sky.humidities[day] = humidity;
    return before;
  }

  public int warmth(int hour) throws IllegalArgumentException {
    if (!isWithin(hour, 0, LAST_HOUR)) {
      throw new IllegalArgumentException("no such hour");
    }
    return sky.warmthOf(hour);
  }

  public int wet(int hour) throws IllegalArgumentException {
    if (!isWithin(hour, 0, LAST_HOUR - 1)) {
      throw new IllegalArgumentException("no such hour");
    }
    return sky.wetWarmthOf(hour);
  }

  public int go(int hours) throws IllegalArgumentException, IllegalStateException {
    if (!isWithin(hours, 1, MOST_HOURS_AT_ONCE)) {
      throw new IllegalArgumentException("the hours are out of range");
    }
    if (clock + hours > LAST_HOUR) {
      throw new IllegalStateException("the clock ends at 504");
    }
    for (int i = 0; i < hours; i++) {
      passHour();
      clock++;
    }
    return clock;
  }

  public int now() {
    return clock;
  }

  // ---- the river, snow

  public int ice(int field) throws IllegalArgumentException {
    if (!isWithin(field, 0, FIELDS - 1)) {
      throw new IllegalArgumentException("no such field");
    }
    return river.thickness[field];
  }

  public int clear(int field) throws IllegalArgumentException {
    if (!isWithin(field, 0, FIELDS - 1)) {
      throw new IllegalArgumentException("no such field");
    }
    return river.clearPart[field];
  }

  public boolean bears(int field) throws IllegalArgumentException {
    if (!isWithin(field, 0, FIELDS - 1)) {
      throw new IllegalArgumentException("no such field");
    }
    return river.bearsLorries(field);
  }

  public int cut(int field, int many)
      throws IllegalArgumentException, UnsupportedOperationException, IllegalStateException {
    if (!isWithin(field, 0, FIELDS - 1) || !isWithin(many, 1, MOST_CUT_AT_ONCE)) {
      throw new IllegalArgumentException("a number is out of range");
    }
    if (river.thickness[field] < CUTTING_ICE || river.places[field] < many || !river.bearsLorries(field)) {
      throw new UnsupportedOperationException("the field cannot be cut so");
    }
    if (clearBlocks + otherBlocks + many > YARD_ROOM) {
      throw new IllegalStateException("the yard has no room for all");
    }
    if (river.isClear(field)) {
      clearBlocks += many;
    } else {
      otherBlocks += many;
    }
    river.places[field] -= many;
    funds -= BLOCK_COST * many;
    return river.places[field];
  }

  public int yard(boolean isClear) {
    return isClear ? clearBlocks : otherBlocks;
  }

  public int lorries(int many) throws IllegalArgumentException {
    if (!isWithin(many, 1, MOST_LORRIES_AT_ONCE)) {
      throw new IllegalArgumentException("so many lorries cannot come");
    }
    storeSnow(LORRY_SNOW * many);
    funds -= LORRY_COST * many;
    return storedSnow;
  }

  public boolean machine(boolean is) {
    boolean was = machineIsOn;
    machineIsOn = is;
    return was;
  }

  public int snow() {
    return storedSnow;
  }

  // ---- what stands

  public int site() throws IllegalStateException {
    if (siteCount >= SITES) {
      throw new IllegalStateException("there are 3 sites");
    }
    sites[siteCount] = new Site();
    siteCount++;
    return siteCount - 1;
  }

  public int put(int site, int x, int y, char kind) throws IndexOutOfBoundsException, IllegalArgumentException,
      UnsupportedOperationException, IllegalStateException {
    Site there = placedSite(site, x, y);
    if (there == null) {
      throw new IndexOutOfBoundsException("no such site or place");
    }
    if (kind != SNOW && kind != BLOCK && kind != CLEAR_BLOCK) {
      throw new IllegalArgumentException("no such kind");
    }
    int place = placeOf(x, y);
    if (there.has(place) || !there.wouldStand(place)) {
      throw new UnsupportedOperationException("a cell is there, or it would not stand");
    }
    if (!hasStuffFor(kind)) {
      throw new IllegalStateException("no such block, or not as much snow");
    }
    useStuffFor(kind);
    funds -= CELL_COST;
    there.setCell(place, kind);
    letFall(there);
    return there.cellCount();
  }

  public char at(int site, int x, int y) throws IndexOutOfBoundsException {
    Site there = placedSite(site, x, y);
    if (there == null) {
      throw new IndexOutOfBoundsException("no such site or place");
    }
    return there.kinds[placeOf(x, y)];
  }

  public int mass(int site, int x, int y) throws IndexOutOfBoundsException, NoSuchElementException {
    Site there = placedSite(site, x, y);
    if (there == null) {
      throw new IndexOutOfBoundsException("no such site or place");
    }
    if (!there.has(placeOf(x, y))) {
      throw new NoSuchElementException("no cell is there");
    }
    return there.masses[placeOf(x, y)];
  }

  public int load(int site, int x, int y) throws IndexOutOfBoundsException, NoSuchElementException {
    Site there = placedSite(site, x, y);
    if (there == null) {
      throw new IndexOutOfBoundsException("no such site or place");
    }
    if (!there.has(placeOf(x, y))) {
      throw new NoSuchElementException("no cell is there");
    }
    there.weigh(NO_PLACE, 0);
    return there.loads[placeOf(x, y)];
  }

  public int strength(int site, int x, int y) throws IndexOutOfBoundsException, NoSuchElementException {
    Site there = placedSite(site, x, y);
    if (there == null) {
      throw new IndexOutOfBoundsException("no such site or place");
    }
    if (!there.has(placeOf(x, y))) {
      throw new NoSuchElementException("no cell is there");
    }
    return there.strengthOf(placeOf(x, y), sky.warmthOf(clock));
  }

  public int creep(int site, int x, int y) throws IndexOutOfBoundsException, NoSuchElementException {
    Site there = placedSite(site, x, y);
    if (there == null) {
      throw new IndexOutOfBoundsException("no such site or place");
    }
    if (!there.has(placeOf(x, y))) {
      throw new NoSuchElementException("no cell is there");
    }
    return there.creeps[placeOf(x, y)];
  }

  public int age(int site, int x, int y) throws IndexOutOfBoundsException, NoSuchElementException {
    Site there = placedSite(site, x, y);
    if (there == null) {
      throw new IndexOutOfBoundsException("no such site or place");
    }
    if (!there.has(placeOf(x, y))) {
      throw new NoSuchElementException("no cell is there");
    }
    return there.ages[placeOf(x, y)];
  }

  public boolean isArch(int site, int x, int y) throws IndexOutOfBoundsException, NoSuchElementException {
    Site there = placedSite(site, x, y);
    if (there == null) {
      throw new IndexOutOfBoundsException("no such site or place");
    }
    if (!there.has(placeOf(x, y))) {
      throw new NoSuchElementException("no cell is there");
    }
    return there.spans(placeOf(x, y));
  }

  public int fell(int site) throws IndexOutOfBoundsException {
    Site there = numberedSite(site);
    if (there == null) {
      throw new IndexOutOfBoundsException("no such site");
    }
    return there.fallen;
  }

  public int lastFell(int site) throws IndexOutOfBoundsException, NoSuchElementException {
    Site there = numberedSite(site);
    if (there == null) {
      throw new IndexOutOfBoundsException("no such site");
    }
    if (there.lastFallen == NO_PLACE) {
      throw new NoSuchElementException("none fell");
    }
    return there.lastFallen;
  }

  public boolean cover(int site, boolean is) throws IndexOutOfBoundsException {
    Site there = numberedSite(site);
    if (there == null) {
      throw new IndexOutOfBoundsException("no such site");
    }
    boolean was = there.covered;
    there.covered = is;
    if (is && !was) {
      funds -= COVER_COST;
    }
    return was;
  }

  // ---- lamps, crowds, slides

  public boolean lamp(int site, int x, int y, boolean is)
      throws IndexOutOfBoundsException, NoSuchElementException, UnsupportedOperationException {
    Site there = placedSite(site, x, y);
    if (there == null) {
      throw new IndexOutOfBoundsException("no such site or place");
    }
    int place = placeOf(x, y);
    if (!there.has(place)) {
      throw new NoSuchElementException("no cell is there");
    }
    if (is && there.kinds[place] == SNOW) {
      throw new UnsupportedOperationException("no lamp is in snow");
    }
    boolean was = there.lamps[place];
    there.lamps[place] = is;
    if (is && !was) {
      funds -= LAMP_COST;
    }
    return was;
  }

  public int lightBits(int site, int x, int y) throws IndexOutOfBoundsException {
    Site there = placedSite(site, x, y);
    if (there == null) {
      throw new IndexOutOfBoundsException("no such site or place");
    }
    return bitsOfFloat(there.lightAt(x, y));
  }

  public boolean isOpen(int site) throws IndexOutOfBoundsException {
    Site there = numberedSite(site);
    if (there == null) {
      throw new IndexOutOfBoundsException("no such site");
    }
    return there.isOpenWith(NO_PLACE, 0, sky.warmthOf(clock));
  }

  public int carries(int site, int x) throws IndexOutOfBoundsException, NoSuchElementException {
    Site there = placedSite(site, x, 0);
    if (there == null) {
      throw new IndexOutOfBoundsException("no such site or place");
    }
    int place = there.highestPlace(x);
    if (place == NO_PLACE) {
      throw new NoSuchElementException("the column has no cell");
    }
    return there.peopleOn(place, sky.warmthOf(clock));
  }

  public int visit(int site, int people)
      throws IndexOutOfBoundsException, IllegalArgumentException, UnsupportedOperationException {
    Site there = numberedSite(site);
    if (there == null) {
      throw new IndexOutOfBoundsException("no such site");
    }
    if (!isWithin(people, 1, MOST_VISITORS_AT_ONCE)) {
      throw new IllegalArgumentException("so many cannot come");
    }
    if (!there.isOpenWith(NO_PLACE, 0, sky.warmthOf(clock))) {
      throw new UnsupportedOperationException("the site is not open");
    }
    there.visitors += people;
    funds += VISITOR_BRINGS * people;
    return there.visitors;
  }

  public long squareBits(int drop, int length, boolean mat) throws IllegalArgumentException {
    if (!isWithin(drop, 1, 20) || !isWithin(length, 5, 60)) {
      throw new IllegalArgumentException("a number is out of range");
    }
    double rub = mat ? 0.1 : 0.05;
    if (sky.warmthOf(clock) > 0) {
      rub += 0.05;
    }
    double fall = (double) drop - rub * (double) length;
    return bitsOfDouble(fall > 0.0 ? 2.0 * 9.81 * fall : 0.0);
  }

  // ---- teams, taking down

  public int plan(int site, int x, int y, boolean is) throws IndexOutOfBoundsException {
    Site there = placedSite(site, x, y);
    if (there == null) {
      throw new IndexOutOfBoundsException("no such site or place");
    }
    there.planned[placeOf(x, y)] = is;
    return there.plannedCount();
  }

  public int carve(int site, int x, int y, int mass) throws IndexOutOfBoundsException, IllegalArgumentException,
      NoSuchElementException, IllegalStateException, UnsupportedOperationException {
    Site there = placedSite(site, x, y);
    if (there == null) {
      throw new IndexOutOfBoundsException("no such site or place");
    }
    if (!isWithin(mass, 0, MOST_CARVED_AT_ONCE)) {
      throw new IllegalArgumentException("the mass is out of range");
    }
    int place = placeOf(x, y);
    if (!there.has(place)) {
      throw new NoSuchElementException("no cell is there");
    }
    if (there.carvedHours >= CARVING_HOURS) {
      throw new IllegalStateException("60 hours were carved");
    }
    if (mass > 0 && there.masses[place] - mass <= FALLING_MASS) {
      throw new UnsupportedOperationException("too little would be left");
    }
    there.carvedHours++;
    if (mass > 0) {
      there.masses[place] -= mass;
    } else {
      there.removeCell(place);
    }
    return letFall(there);
  }

  public int hours(int site) throws IndexOutOfBoundsException {
    Site there = numberedSite(site);
    if (there == null) {
      throw new IndexOutOfBoundsException("no such site");
    }
    return CARVING_HOURS - there.carvedHours;
  }

  public double judge(int site) throws IndexOutOfBoundsException {
    Site there = numberedSite(site);
    if (there == null) {
      throw new IndexOutOfBoundsException("no such site");
    }
    there.lastMark = (double) there.placesAsPlanned() / 48.0 - 0.05 * (double) there.fallen;
    there.judged = true;
    return there.lastMark;
  }

  public double mark(int site) throws IndexOutOfBoundsException, NoSuchElementException {
    Site there = numberedSite(site);
    if (there == null) {
      throw new IndexOutOfBoundsException("no such site");
    }
    if (!there.judged) {
      throw new NoSuchElementException("it was not judged");
    }
    return there.lastMark;
  }

  public int take(int site, int x, int y)
      throws IndexOutOfBoundsException, NoSuchElementException, UnsupportedOperationException {
    Site there = placedSite(site, x, y);
    if (there == null) {
      throw new IndexOutOfBoundsException("no such site or place");
    }
    int place = placeOf(x, y);
    if (!there.has(place)) {
      throw new NoSuchElementException("no cell is there");
    }
    if (there.wouldFallWithout(place, sky.warmthOf(clock))) {
      throw new UnsupportedOperationException("something else would fall");
    }
    int taken = there.masses[place];
    there.removeCell(place);
    return taken;
  }

  // ---- the whole city

  public int money() {
    return funds;
  }

  public int count(int site) throws IndexOutOfBoundsException {
    Site there = numberedSite(site);
    if (there == null) {
      throw new IndexOutOfBoundsException("no such site");
    }
    return there.cellCount();
  }

  public float openShare() throws ArithmeticException {
    if (siteCount == 0) {
      throw new ArithmeticException("there are no sites");
    }
    int open = 0;
    for (int i = 0; i < siteCount; i++) {
      Site each = numberedSite(i);
      if (each != null && each.isOpenWith(NO_PLACE, 0, sky.warmthOf(clock))) {
        open++;
      }
    }
    return (float) open / (float) siteCount;
  }

  public double meanCreep(int site) throws IndexOutOfBoundsException, ArithmeticException {
    Site there = numberedSite(site);
    if (there == null) {
      throw new IndexOutOfBoundsException("no such site");
    }
    int cells = there.cellCount();
    if (cells == 0) {
      throw new ArithmeticException("there are no cells");
    }
    return (double) there.creepSum() / (double) cells;
  }

  public long checksum() {
    long sum = 7;
    for (int i = 0; i < siteCount; i++) {
      Site each = numberedSite(i);
      for (int place = 0; each != null && place < CELLS; place++) {
        sum = 31 * sum + (each.has(place) ? each.masses[place] + each.creeps[place] : 0);
      }
    }
    sum = 31 * sum + funds;
    sum = 31 * sum + storedSnow;
    for (int field = 0; field < FIELDS; field++) {
      sum = 31 * sum + river.thickness[field];
    }
    return sum;
  }

  public boolean isSound() {
    for (int i = 0; i < siteCount; i++) {
      Site each = numberedSite(i);
      if (each != null && !each.bearsItself()) {
        return false;
      }
    }
    for (int field = 0; field < FIELDS; field++) {
      if (river.clearPart[field] > river.thickness[field]) {
        return false;
      }
    }
    return true;
  }

  // ---- helpers

  private static boolean isWithin(int number, int least, int most) {
    return number >= least && number <= most;
  }

  private static int placeOf(int x, int y) {
    return WIDE * y + x;
  }

  /** The site, or null if there is none. */
  private Site numberedSite(int site) {
    return isWithin(site, 0, siteCount - 1) ? sites[site] : null;
  }

  /** The site, or null if there is none, or no such place in it. */
  private Site placedSite(int site, int x, int y) {
    return isWithin(x, 0, WIDE - 1) && isWithin(y, 0, HIGH - 1) ? numberedSite(site) : null;
  }

  private boolean hasStuffFor(char kind) {
    if (kind == SNOW) {
      return storedSnow >= CELL_SNOW;
    }
    return kind == CLEAR_BLOCK ? clearBlocks > 0 : otherBlocks > 0;
  }

  private void useStuffFor(char kind) {
    if (kind == SNOW) {
      storedSnow -= CELL_SNOW;
    } else if (kind == CLEAR_BLOCK) {
      clearBlocks--;
    } else {
      otherBlocks--;
    }
  }

  private void storeSnow(int more) {
    storedSnow = Math.min(SNOW_ROOM, storedSnow + more);
  }

  private int letFall(Site there) {
    int fell = there.settle(sky.warmthOf(clock));
    funds -= FALL_COST * fell;
    return fell;
  }

  private void passHour() {
    int warmth = sky.warmthOf(clock);
    river.passHour(warmth);
    if (machineIsOn && sky.wetWarmthOf(clock) <= MACHINE_WET_WARMTH) {
      storeSnow(MACHINE_SNOW);
    }
    for (int i = 0; i < siteCount; i++) {
      Site each = numberedSite(i);
      if (each != null) {
        if (!each.covered) {
          funds -= FALL_COST * each.wear(clock % DAY_HOURS, warmth, sky.windOf(clock));
        }
        funds -= FALL_COST * each.settle(warmth);
        each.growOld(warmth);
      }
    }
  }

  /** The bits of a float that is 0, or positive and not too small to be normal; made by hand, for want of a library. */
  private static int bitsOfFloat(float number) {
    if (!(number > 0.0f)) {
      return 0;
    }
    float part = number;
    int exponent = 127;
    for (int i = 0; i < 127 && part >= 2.0f; i++) {
      part = part / 2.0f;
      exponent++;
    }
    for (int i = 0; i < 126 && part < 1.0f; i++) {
      part = part * 2.0f;
      exponent--;
    }
    return (exponent << 23) + (int) ((part - 1.0f) * 8388608.0f);
  }

  /** The bits of a double that is 0, or positive and not too small to be normal; made by hand, for want of a library. */
  private static long bitsOfDouble(double number) {
    if (!(number > 0.0)) {
      return 0L;
    }
    double part = number;
    long exponent = 1023L;
    for (int i = 0; i < 1023 && part >= 2.0; i++) {
      part = part / 2.0;
      exponent++;
    }
    for (int i = 0; i < 1022 && part < 1.0; i++) {
      part = part * 2.0;
      exponent--;
    }
    return (exponent << 52) + (long) ((part - 1.0) * 4503599627370496.0);
  }

  /** The weather of all days. */
  private static final class Sky {
    final int[] lows;
    final int[] highs;
    final int[] winds;
    final int[] humidities;

    Sky() {
      lows = new int[DAYS];
      highs = new int[DAYS];
      winds = new int[DAYS];
      humidities = new int[DAYS];
      for (int day = 0; day < DAYS; day++) {
        lows[day] = USUAL_LOW;
        highs[day] = USUAL_HIGH;
        winds[day] = USUAL_WIND;
        humidities[day] = USUAL_HUMIDITY;
      }
    }

    int warmthOf(int hour) {
      if (!isWithin(hour, 0, LAST_HOUR - 1)) {
        return USUAL_LOW;
      }
      int day = hour / DAY_HOURS;
      int ofDay = hour % DAY_HOURS;
      int fromMidnight = ofDay <= NOON ? ofDay : DAY_HOURS - ofDay;
      return lows[day] + (highs[day] - lows[day]) * fromMidnight / NOON;
    }

    int wetWarmthOf(int hour) {
      if (!isWithin(hour, 0, LAST_HOUR - 1)) {
        return USUAL_LOW;
      }
      return warmthOf(hour) - (FULL_HUMIDITY - humidities[hour / DAY_HOURS]) / 2;
    }

    int windOf(int hour) {
      return isWithin(hour, 0, LAST_HOUR - 1) ? winds[hour / DAY_HOURS] : USUAL_WIND;
    }
  }

  /** The fields of ice. */
  private static final class River {
    final int[] thickness;
    final int[] clearPart;
    final int[] places;

    River() {
      thickness = new int[FIELDS];
      clearPart = new int[FIELDS];
      places = new int[FIELDS];
      for (int field = 0; field < FIELDS; field++) {
        places[field] = FIELD_PLACES;
      }
    }

    boolean bearsLorries(int field) {
      return isWithin(field, 0, FIELDS - 1) && thickness[field] >= BEARING_ICE && places[field] >= BEARING_PLACES;
    }

    boolean isClear(int field) {
      return isWithin(field, 0, FIELDS - 1) && clearPart[field] * 3 >= thickness[field] * 2;
    }

    void passHour(int warmth) {
      for (int field = 0; field < FIELDS; field++) {
        if (warmth < 0) {
          int grown = -warmth / (10 + Math.max(0, thickness[field]) / 20);
          thickness[field] += grown;
          clearPart[field] += warmth <= CLEAR_GROWTH_WARMTH ? grown : 0;
        } else {
          thickness[field] = Math.max(0, thickness[field] - warmth / 10);
          clearPart[field] = Math.min(clearPart[field], thickness[field]);
        }
      }
    }
  }

  /** A site: its cells by their place, 8 times y plus x, and what is kept about it. */
  private static final class Site {
    final char[] kinds;
    final int[] masses;
    final int[] creeps;
    final int[] ages;
    final boolean[] lamps;
    final boolean[] planned;
    /** What weigh found last. */
    final int[] loads;
    /** Which cells fall at once next. */
    final boolean[] falling;
    boolean covered;
    int fallen;
    int lastFallen;
    int visitors;
    int carvedHours;
    boolean judged;
    double lastMark;

    Site() {
      kinds = new char[CELLS];
      masses = new int[CELLS];
      creeps = new int[CELLS];
      ages = new int[CELLS];
      lamps = new boolean[CELLS];
      planned = new boolean[CELLS];
      loads = new int[CELLS];
      falling = new boolean[CELLS];
      covered = false;
      fallen = 0;
      lastFallen = NO_PLACE;
      visitors = 0;
      carvedHours = 0;
      judged = false;
      lastMark = 0.0;
      for (int place = 0; place < CELLS; place++) {
        kinds[place] = NONE;
      }
    }

    boolean has(int place) {
      return place >= 0 && place < CELLS && kinds[place] != NONE;
    }

    /** Whether a cell at the place has the ground or a cell below it. */
    boolean rests(int place) {
      return place < WIDE || (place < CELLS && kinds[place - WIDE] != NONE);
    }

    /** Whether a cell at the place is, or would be, an arch. */
    boolean spans(int place) {
      int x = place % WIDE;
      return !rests(place) && x > 0 && x < WIDE - 1
          && has(place - 1) && rests(place - 1) && has(place + 1) && rests(place + 1);
    }

    boolean wouldStand(int place) {
      return rests(place) || spans(place);
    }

    void setCell(int place, char kind) {
      if (!isWithin(place, 0, CELLS - 1)) {
        return;
      }
      kinds[place] = kind;
      masses[place] = massOfKind(kind);
      creeps[place] = 0;
      ages[place] = 0;
      lamps[place] = false;
    }

    void removeCell(int place) {
      setCell(place, NONE);
    }

    int cellCount() {
      int cells = 0;
      for (int place = 0; place < CELLS; place++) {
        cells += kinds[place] != NONE ? 1 : 0;
      }
      return cells;
    }

    int creepSum() {
      int sum = 0;
      for (int place = 0; place < CELLS; place++) {
        sum += kinds[place] != NONE ? creeps[place] : 0;
      }
      return sum;
    }

    int plannedCount() {
      int places = 0;
      for (int place = 0; place < CELLS; place++) {
        places += planned[place] ? 1 : 0;
      }
      return places;
    }

    int placesAsPlanned() {
      int places = 0;
      for (int place = 0; place < CELLS; place++) {
        places += planned[place] == (kinds[place] != NONE) ? 1 : 0;
      }
      return places;
    }

    int strengthOf(int place, int warmth) {
      if (!has(place)) {
        return 0;
      }
      int strength = strengthOfKind(kinds[place]) + 10 * Math.min(STRENGTHENING_HOURS, ages[place]);
      strength -= lamps[place] ? LAMP_WEAKENS : 0;
      strength -= 10 * Math.max(0, warmth - WEAKENING_WARMTH);
      return Math.max(0, strength);
    }

    /** Finds all loads, with so much more on one place; from the highest row down, as nothing bears upwards. */
    void weigh(int morePlace, int more) {
      for (int y = HIGH - 1; y >= 0; y--) {
        for (int x = 0; x < WIDE; x++) {
          int place = placeOf(x, y);
          loads[place] = 0;
          if (has(place)) {
            int above = y < HIGH - 1 ? loads[place + WIDE] : 0;
            loads[place] = masses[place] + above + (place == morePlace ? more : 0);
          }
        }
        for (int x = 1; x < WIDE - 1; x++) {
          int place = placeOf(x, y);
          if (has(place) && spans(place)) {
            int half = loads[place] / 2;
            loads[place - 1] += half;
            loads[place + 1] += loads[place] - half;
          }
        }
      }
    }

    /** Marks the cells that fall by what stands, and returns whether there are some. */
    boolean markFalling(int warmth) {
      weigh(NO_PLACE, 0);
      boolean some = false;
      for (int place = 0; place < CELLS; place++) {
        falling[place] = has(place) && (!wouldStand(place) || loads[place] > strengthOf(place, warmth));
        some = some || falling[place];
      }
      return some;
    }

    /** Lets the marked cells fall at once, and returns how many. */
    int dropMarked() {
      int dropped = 0;
      for (int place = 0; place < CELLS; place++) {
        if (falling[place]) {
          removeCell(place);
          lastFallen = place;
          dropped++;
        }
      }
      fallen += dropped;
      return dropped;
    }

    /** Lets fall what falls, till nothing does, and returns how many cells fell; the loads are found then. */
    int settle(int warmth) {
      int dropped = 0;
      for (int times = 0; times <= CELLS && markFalling(warmth); times++) {
        dropped += dropMarked();
      }
      return dropped;
    }

    /** Whether something else would fall if the cell were away. */
    boolean wouldFallWithout(int place, int warmth) {
      if (!has(place)) {
        return false;
      }
      char kind = kinds[place];
      kinds[place] = NONE;
      boolean some = markFalling(warmth);
      kinds[place] = kind;
      return some;
    }

    /** What sun and wind eat; returns how many cells fell by it. */
    int wear(int ofDay, int warmth, int wind) {
      int sun = isWithin(ofDay, SUN_FROM, SUN_TO) && warmth > SUN_WARMTH ? (warmth - SUN_WARMTH) / 20 : 0;
      int gust = wind >= EATING_WIND ? wind / 5 : 0;
      for (int place = 0; place < CELLS; place++) {
        falling[place] = false;
        if (has(place)) {
          boolean hasRight = place % WIDE < WIDE - 1 && has(place + 1);
          boolean hasLeft = place % WIDE > 0 && has(place - 1);
          masses[place] -= (hasRight ? 0 : sun) + (hasLeft ? 0 : gust);
          falling[place] = masses[place] <= FALLING_MASS;
        }
      }
      return dropMarked();
    }

    /** Lets all creep by the loads that were found last, and be an hour older. */
    void growOld(int warmth) {
      for (int place = 0; place < CELLS; place++) {
        if (has(place)) {
          int more = loads[place] * Math.max(0, warmth + 300) / 100000;
          creeps[place] += lamps[place] ? 2 * more : more;
          ages[place]++;
        }
      }
    }

    float lightAt(int x, int y) {
      float light = 0.0f;
      for (int lampX = 0; lampX < WIDE; lampX++) {
        int lampPlace = placeOf(lampX, y);
        if (has(lampPlace) && lamps[lampPlace]) {
          light += rayFrom(lampPlace, placeOf(x, y));
        }
      }
      return light;
    }

    /** What comes of a lamp's light to a place in its row, dimmed in turn from the lamp on. */
    float rayFrom(int lampPlace, int place) {
      float ray = 1.0f;
      int step = place >= lampPlace ? 1 : -1;
      int at = lampPlace;
      for (int i = 0; i < WIDE; i++) {
        if (has(at)) {
          ray = ray * throughKind(kinds[at]);
        }
        if (at == place) {
          break;
        }
        at += step;
      }
      return ray;
    }

    /** Whether the site is open with so much more on one place. */
    boolean isOpenWith(int morePlace, int more, int warmth) {
      weigh(morePlace, more);
      boolean some = false;
      for (int place = 0; place < CELLS; place++) {
        if (has(place)) {
          some = true;
          if (creeps[place] >= OPEN_CREEP || loads[place] * 2 > strengthOf(place, warmth)) {
            return false;
          }
        }
      }
      return some;
    }

    int highestPlace(int x) {
      for (int y = HIGH - 1; y >= 0; y--) {
        if (has(placeOf(x, y))) {
          return placeOf(x, y);
        }
      }
      return NO_PLACE;
    }

    /** How many people the place carries; more people never open a site, so halving steps find the most. */
    int peopleOn(int place, int warmth) {
      int people = 0;
      for (int step = 64; step > 0; step /= 2) {
        int tried = people + step;
        if (tried <= MOST_CARRIED && isOpenWith(place, PERSON_MASS * tried, warmth)) {
          people = tried;
        }
      }
      return people;
    }

    /** Whether each cell stands, and the ground bears all masses. */
    boolean bearsItself() {
      weigh(NO_PLACE, 0);
      int allMass = 0;
      int groundLoad = 0;
      for (int place = 0; place < CELLS; place++) {
        if (has(place)) {
          if (!wouldStand(place)) {
            return false;
          }
          allMass += masses[place];
          groundLoad += place < WIDE ? loads[place] : 0;
        }
      }
      return allMass == groundLoad;
    }

    private static int massOfKind(char kind) {
      if (kind == SNOW) {
        return 300;
      }
      if (kind == BLOCK) {
        return 450;
      }
      return kind == CLEAR_BLOCK ? 500 : 0;
    }

    private static int strengthOfKind(char kind) {
      if (kind == SNOW) {
        return 2500;
      }
      return kind == BLOCK ? 6000 : 5000;
    }

    private static float throughKind(char kind) {
      if (kind == SNOW) {
        return 0.25f;
      }
      return kind == BLOCK ? 0.5f : 0.75f;
    }
  }
}
