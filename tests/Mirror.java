import java.util.ArrayList;
import java.util.List;
import java.util.NoSuchElementException;
import java.util.TreeMap;

/** The document told a second time, as naively as it goes, so that random runs have something to be held against. */
final class Mirror {
  private static final class Cell {
    char kind;
    int mass;
    int creep;
    int age;
    boolean lamp;
  }

  private static final class Place {
    TreeMap<Integer, Cell> cells = new TreeMap<>();
    boolean[] planned = new boolean[48];
    boolean cover;
    int fell;
    int last = -1;
    int people;
    int hours = 60;
    Double mark;

    Cell at(int x, int y) {
      return x < 0 || x > 7 || y < 0 || y > 5 ? null : cells.get(8 * y + x);
    }

    boolean onSomething(int x, int y) {
      return y == 0 || at(x, y - 1) != null;
    }

    boolean between(int x, int y) {
      return !onSomething(x, y) && at(x - 1, y) != null && onSomething(x - 1, y) && at(x + 1, y) != null && onSomething(x + 1, y);
    }

    int load(int x, int y, int people, int peoplePlace) {
      int sum = at(x, y).mass + (8 * y + x == peoplePlace ? 70 * people : 0);
      if (at(x, y + 1) != null) {
        sum += load(x, y + 1, people, peoplePlace);
      }
      if (between(x, y)) {
        return sum;
      }
      if (at(x + 1, y) != null && between(x + 1, y)) {
        sum += load(x + 1, y, people, peoplePlace) / 2;
      }
      if (at(x - 1, y) != null && between(x - 1, y)) {
        int all = load(x - 1, y, people, peoplePlace);
        sum += all - all / 2;
      }
      return sum;
    }

    static int strength(Cell cell, int warmth) {
      int strength = cell.kind == 's' ? 2500 : cell.kind == 'i' ? 6000 : 5000;
      strength += Math.min(480, 10 * cell.age);
      if (cell.lamp) {
        strength -= 500;
      }
      if (warmth > -50) {
        strength -= 10 * (warmth + 50);
      }
      return strength < 0 ? 0 : strength;
    }

    List<Integer> next(int warmth) {
      List<Integer> all = new ArrayList<>();
      for (int p : cells.keySet()) {
        boolean stands = onSomething(p % 8, p / 8) || between(p % 8, p / 8);
        if (!stands || load(p % 8, p / 8, 0, -1) > strength(cells.get(p), warmth)) {
          all.add(p);
        }
      }
      return all;
    }

    int drop(List<Integer> all) {
      for (int p : all) {
        cells.remove(p);
        last = p;
      }
      fell += all.size();
      return all.size();
    }

    int settle(int warmth) {
      int sum = 0;
      for (List<Integer> all = next(warmth); !all.isEmpty(); all = next(warmth)) {
        sum += drop(all);
      }
      return sum;
    }

    boolean open(int warmth, int people, int peoplePlace) {
      for (int p : cells.keySet()) {
        Cell cell = cells.get(p);
        if (cell.creep >= 200 || load(p % 8, p / 8, people, peoplePlace) * 2 > strength(cell, warmth)) {
          return false;
        }
      }
      return !cells.isEmpty();
    }
  }

  int[][] days = new int[21][];
  int clock;
  int[] ice = new int[4];
  int[] clear = new int[4];
  int[] places = {40, 40, 40, 40};
  int clears;
  int others;
  int snow;
  boolean machine;
  int money;
  List<Place> sites = new ArrayList<>();

  Mirror() {
    for (int day = 0; day < 21; day++) {
      days[day] = new int[] {-150, -50, 5, 80};
    }
  }

  static void need(boolean holds, RuntimeException other) {
    if (!holds) {
      throw other;
    }
  }

  static IllegalArgumentException argument() {
    return new IllegalArgumentException();
  }

  static UnsupportedOperationException unsupported() {
    return new UnsupportedOperationException();
  }

  Place of(int site) {
    need(site >= 0 && site < sites.size(), new IndexOutOfBoundsException());
    return sites.get(site);
  }

  Place of(int site, int x, int y) {
    need(site >= 0 && site < sites.size() && x >= 0 && x < 8 && y >= 0 && y < 6, new IndexOutOfBoundsException());
    return sites.get(site);
  }

  Cell cell(int site, int x, int y) {
    Cell cell = of(site, x, y).at(x, y);
    need(cell != null, new NoSuchElementException());
    return cell;
  }

  int weather(int day, int low, int high, int wind, int humidity) {
    need(day >= 0 && day <= 20 && low >= -400 && low <= high && high <= 200 && wind >= 0 && wind <= 30 && humidity >= 0
        && humidity <= 100, argument());
    need(clock <= 24 * day, unsupported());
    int was = days[day][0];
    days[day] = new int[] {low, high, wind, humidity};
    return was;
  }

  int warmth(int hour) {
    need(hour >= 0 && hour <= 504, argument());
    if (hour == 504) {
      return -150;
    }
    int[] day = days[hour / 24];
    int h = hour % 24;
    return day[0] + (day[1] - day[0]) * Math.min(h, 24 - h) / 12;
  }

  int wet(int hour) {
    need(hour >= 0 && hour <= 503, argument());
    return warmth(hour) - (100 - days[hour / 24][3]) / 2;
  }

  int go(int hours) {
    need(hours >= 1 && hours <= 48, argument());
    need(clock + hours <= 504, new IllegalStateException());
    for (int i = 0; i < hours; i++) {
      hour(warmth(clock));
      clock++;
    }
    return clock;
  }

  private void hour(int warmth) {
    for (int field = 0; field < 4; field++) {
      if (warmth < 0) {
        int more = -warmth / (10 + ice[field] / 20);
        ice[field] += more;
        clear[field] += warmth <= -100 ? more : 0;
      }
      if (warmth > 0) {
        ice[field] = Math.max(0, ice[field] - warmth / 10);
        clear[field] = Math.min(clear[field], ice[field]);
      }
    }
    if (machine && wet(clock) <= -20) {
      snow = Math.min(500, snow + 2);
    }
    for (Place site : sites) {
      siteHour(site, warmth);
    }
  }

  private void siteHour(Place site, int warmth) {
    int h = clock % 24;
    int wind = days[clock / 24][2];
    int fell = 0;
    if (!site.cover) {
      List<Integer> eaten = new ArrayList<>();
      for (int p : site.cells.keySet()) {
        Cell cell = site.cells.get(p);
        if (h >= 10 && h <= 14 && warmth > -100 && site.at(p % 8 + 1, p / 8) == null) {
          cell.mass -= (warmth + 100) / 20;
        }
        if (wind >= 10 && site.at(p % 8 - 1, p / 8) == null) {
          cell.mass -= wind / 5;
        }
        if (cell.mass <= 100) {
          eaten.add(p);
        }
      }
      fell += site.drop(eaten);
    }
    fell += site.settle(warmth);
    money -= 200 * fell;
    for (int p : site.cells.keySet()) {
      Cell cell = site.cells.get(p);
      int load = site.load(p % 8, p / 8, 0, -1);
      cell.creep += Math.max(0, load * (warmth + 300)) / 100000 * (cell.lamp ? 2 : 1);
      cell.age++;
    }
  }

  int ice(int field) {
    need(field >= 0 && field < 4, argument());
    return ice[field];
  }

  int clear(int field) {
    need(field >= 0 && field < 4, argument());
    return clear[field];
  }

  boolean bears(int field) {
    need(field >= 0 && field < 4, argument());
    return ice[field] >= 250 && places[field] >= 20;
  }

  int cut(int field, int many) {
    need(field >= 0 && field < 4 && many >= 1 && many <= 20, argument());
    need(ice[field] >= 300 && places[field] >= many && places[field] >= 20, unsupported());
    need(clears + others + many <= 200, new IllegalStateException());
    if (clear[field] * 3 >= ice[field] * 2) {
      clears += many;
    } else {
      others += many;
    }
    money -= 20 * many;
    places[field] -= many;
    return places[field];
  }

  int yard(boolean isClear) {
    return isClear ? clears : others;
  }

  int lorries(int many) {
    need(many >= 1 && many <= 20, argument());
    snow = Math.min(500, snow + 5 * many);
    money -= 100 * many;
    return snow;
  }

  boolean machine(boolean is) {
    boolean was = machine;
    machine = is;
    return was;
  }

  int site() {
    need(sites.size() < 3, new IllegalStateException());
    sites.add(new Place());
    return sites.size() - 1;
  }

  int put(int site, int x, int y, char kind) {
    Place place = of(site, x, y);
    need("sic".indexOf(kind) >= 0, argument());
    need(place.at(x, y) == null && (place.onSomething(x, y) || place.between(x, y)), unsupported());
    need(kind == 's' ? snow >= 4 : kind == 'i' ? others >= 1 : clears >= 1, new IllegalStateException());
    snow -= kind == 's' ? 4 : 0;
    others -= kind == 'i' ? 1 : 0;
    clears -= kind == 'c' ? 1 : 0;
    Cell cell = new Cell();
    cell.kind = kind;
    cell.mass = kind == 's' ? 300 : kind == 'i' ? 450 : 500;
    place.cells.put(8 * y + x, cell);
    money -= 10 + 200 * place.settle(warmth(clock));
    return place.cells.size();
  }

  char at(int site, int x, int y) {
    Cell cell = of(site, x, y).at(x, y);
    return cell == null ? '.' : cell.kind;
  }

  int mass(int site, int x, int y) {
    return cell(site, x, y).mass;
  }

  int load(int site, int x, int y) {
    cell(site, x, y);
    return of(site).load(x, y, 0, -1);
  }

  int strength(int site, int x, int y) {
    return Place.strength(cell(site, x, y), warmth(clock));
  }

  int creep(int site, int x, int y) {
    return cell(site, x, y).creep;
  }

  int age(int site, int x, int y) {
    return cell(site, x, y).age;
  }

  boolean isArch(int site, int x, int y) {
    cell(site, x, y);
    return of(site).between(x, y);
  }

  int fell(int site) {
    return of(site).fell;
  }

  int lastFell(int site) {
    need(of(site).last >= 0, new NoSuchElementException());
    return of(site).last;
  }

  boolean cover(int site, boolean is) {
    boolean was = of(site).cover;
    of(site).cover = is;
    money -= is && !was ? 300 : 0;
    return was;
  }

  boolean lamp(int site, int x, int y, boolean is) {
    Cell cell = cell(site, x, y);
    need(!is || cell.kind != 's', unsupported());
    boolean was = cell.lamp;
    cell.lamp = is;
    money -= is && !was ? 50 : 0;
    return was;
  }

  int lightBits(int site, int x, int y) {
    Place place = of(site, x, y);
    float sum = 0f;
    for (int lamp = 0; lamp < 8; lamp++) {
      if (place.at(lamp, y) != null && place.at(lamp, y).lamp) {
        float ray = 1f;
        for (int i = 0; i <= Math.abs(x - lamp); i++) {
          Cell cell = place.at(lamp + (x > lamp ? i : -i), y);
          ray *= cell == null ? 1f : cell.kind == 's' ? 0.25f : cell.kind == 'i' ? 0.5f : 0.75f;
        }
        sum += ray;
      }
    }
    return Float.floatToIntBits(sum);
  }

  boolean isOpen(int site) {
    return of(site).open(warmth(clock), 0, -1);
  }

  int carries(int site, int x) {
    Place place = of(site, x, 0);
    int top = -1;
    for (int y = 0; y < 6; y++) {
      top = place.at(x, y) != null ? 8 * y + x : top;
    }
    need(top >= 0, new NoSuchElementException());
    int people = 0;
    while (people < 99 && place.open(warmth(clock), people + 1, top)) {
      people++;
    }
    return people;
  }

  int visit(int site, int people) {
    Place place = of(site);
    need(people >= 1 && people <= 500, argument());
    need(isOpen(site), unsupported());
    money += 5 * people;
    place.people += people;
    return place.people;
  }

  long squareBits(int drop, int length, boolean mat) {
    need(drop >= 1 && drop <= 20 && length >= 5 && length <= 60, argument());
    double rub = mat ? 0.1 : 0.05;
    if (warmth(clock) > 0) {
      rub = rub + 0.05;
    }
    double square = 2.0 * 9.81 * (drop - rub * length);
    return Double.doubleToLongBits(square > 0 ? square : 0.0);
  }

  int plan(int site, int x, int y, boolean is) {
    Place place = of(site, x, y);
    place.planned[8 * y + x] = is;
    int sum = 0;
    for (boolean each : place.planned) {
      sum += each ? 1 : 0;
    }
    return sum;
  }

  int carve(int site, int x, int y, int mass) {
    Place place = of(site, x, y);
    need(mass >= 0 && mass <= 200, argument());
    Cell cell = cell(site, x, y);
    need(place.hours > 0, new IllegalStateException());
    need(mass == 0 || cell.mass - mass > 100, unsupported());
    place.hours--;
    cell.mass -= mass;
    if (mass == 0) {
      place.cells.remove(8 * y + x);
    }
    int fell = place.settle(warmth(clock));
    money -= 200 * fell;
    return fell;
  }

  int hours(int site) {
    return of(site).hours;
  }

  double judge(int site) {
    Place place = of(site);
    int same = 0;
    for (int p = 0; p < 48; p++) {
      same += place.planned[p] == place.cells.containsKey(p) ? 1 : 0;
    }
    place.mark = same / 48.0 - 0.05 * place.fell;
    return place.mark;
  }

  double mark(int site) {
    need(of(site).mark != null, new NoSuchElementException());
    return of(site).mark;
  }

  int take(int site, int x, int y) {
    Cell cell = cell(site, x, y);
    Place place = of(site);
    place.cells.remove(8 * y + x);
    if (!place.next(warmth(clock)).isEmpty()) {
      place.cells.put(8 * y + x, cell);
      throw unsupported();
    }
    return cell.mass;
  }

  int count(int site) {
    return of(site).cells.size();
  }

  float openShare() {
    need(!sites.isEmpty(), new ArithmeticException());
    int open = 0;
    for (int site = 0; site < sites.size(); site++) {
      open += isOpen(site) ? 1 : 0;
    }
    return (float) open / (float) sites.size();
  }

  double meanCreep(int site) {
    need(of(site).cells.size() > 0, new ArithmeticException());
    double sum = 0;
    for (Cell cell : of(site).cells.values()) {
      sum += cell.creep;
    }
    return sum / of(site).cells.size();
  }

  long checksum() {
    long sum = 7;
    for (Place place : sites) {
      for (int p = 0; p < 48; p++) {
        Cell cell = place.cells.get(p);
        sum = 31 * sum + (cell == null ? 0 : cell.mass + cell.creep);
      }
    }
    sum = 31 * (31 * sum + money) + snow;
    for (int each : ice) {
      sum = 31 * sum + each;
    }
    return sum;
  }

  boolean isSound() {
    for (Place place : sites) {
      int masses = 0;
      int loads = 0;
      for (int p : place.cells.keySet()) {
        masses += place.cells.get(p).mass;
        loads += p < 8 ? place.load(p, 0, 0, -1) : 0;
        if (!place.onSomething(p % 8, p / 8) && !place.between(p % 8, p / 8)) {
          return false;
        }
      }
      if (masses != loads) {
        return false;
      }
    }
    for (int field = 0; field < 4; field++) {
      if (clear[field] > ice[field]) {
        return false;
      }
    }
    return true;
  }
}
