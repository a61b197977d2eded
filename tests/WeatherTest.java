/** Promises 1 to 6: a new object, weather, warmth, wet, go, now. */
public final class WeatherTest {
  public static void main(String[] args) {
    newObject();
    weather();
    weatherWrong();
    warmth();
    wet();
    go();
    hourBeforeHour();
    Check.end();
  }

  private static void newObject() {
    Snowpalace city = new Snowpalace();
    Check.due("new now", city.now(), 0);
    Check.due("new money", city.money(), 0);
    Check.due("new snow", city.snow(), 0);
    Check.due("new yard clear", city.yard(true), 0);
    Check.due("new yard others", city.yard(false), 0);
    for (int field = 0; field < 4; field++) {
      Check.due("new ice", city.ice(field), 0);
      Check.due("new clear", city.clear(field), 0);
    }
    Check.due("new sound", city.isSound(), true);
    Check.due("new machine", city.machine(false), false);
    Check.fails("new count", city, Check.INDEX, () -> city.count(0));
    Check.due("new warmth 0", city.warmth(0), -150);
    Check.due("new warmth 12", city.warmth(12), -50);
    Check.due("new wet 0", city.wet(0), -160);
    Snowpalace other = new Snowpalace();
    other.site();
    other.lorries(1);
    other.weather(0, 0, 0, 0, 0);
    other.go(1);
    Check.due("objects are apart", Check.all(city), Check.all(new Snowpalace()));
  }

  private static void weather() {
    Snowpalace city = new Snowpalace();
    Check.due("weather first", city.weather(0, -400, 200, 0, 0), -150);
    Check.due("weather again", city.weather(0, 200, 200, 30, 100), -400);
    Check.due("weather third", city.weather(0, 0, 0, 5, 50), 200);
    Check.due("weather last day", city.weather(20, -1, 1, 5, 50), -150);
    city.go(24);
    Check.due("weather as the day begins", city.weather(1, -10, 0, 5, 50), -150);
    city.go(1);
    Check.due("weather of the day behind", city.weather(2, -20, 0, 5, 50), -150);
    Check.due("the warmth has it", city.warmth(48), -20);
  }

  private static void weatherWrong() {
    Snowpalace city = new Snowpalace();
    Check.fails("weather day -1", city, Check.ARGUMENT, () -> city.weather(-1, 0, 0, 0, 0));
    Check.fails("weather day 21", city, Check.ARGUMENT, () -> city.weather(21, 0, 0, 0, 0));
    Check.fails("weather low -401", city, Check.ARGUMENT, () -> city.weather(0, -401, 0, 0, 0));
    Check.fails("weather low 201", city, Check.ARGUMENT, () -> city.weather(0, 201, 201, 0, 0));
    Check.fails("weather high 201", city, Check.ARGUMENT, () -> city.weather(0, 0, 201, 0, 0));
    Check.fails("weather high below low", city, Check.ARGUMENT, () -> city.weather(0, 10, 9, 0, 0));
    Check.fails("weather wind -1", city, Check.ARGUMENT, () -> city.weather(0, 0, 0, -1, 0));
    Check.fails("weather wind 31", city, Check.ARGUMENT, () -> city.weather(0, 0, 0, 31, 0));
    Check.fails("weather humidity -1", city, Check.ARGUMENT, () -> city.weather(0, 0, 0, 0, -1));
    Check.fails("weather humidity 101", city, Check.ARGUMENT, () -> city.weather(0, 0, 0, 0, 101));
    Check.fails("weather extremes", city, Check.ARGUMENT,
        () -> city.weather(Integer.MIN_VALUE, Integer.MAX_VALUE, Integer.MIN_VALUE, Integer.MAX_VALUE, Integer.MIN_VALUE));
    city.go(1);
    Check.fails("weather of a day that has begun", city, Check.UNSUPPORTED, () -> city.weather(0, 0, 0, 0, 0));
    Check.fails("weather wrong in both", city, Check.ARGUMENT, () -> city.weather(0, 0, 0, 0, 101));
    city.go(24);
    Check.fails("weather of a day that is over", city, Check.UNSUPPORTED, () -> city.weather(0, 0, 0, 0, 0));
    Check.fails("weather of the day of now", city, Check.UNSUPPORTED, () -> city.weather(1, 0, 0, 0, 0));
  }

  private static void warmth() {
    Snowpalace city = new Snowpalace();
    city.weather(0, -300, -100, 5, 80);
    Check.due("warmth 0", city.warmth(0), -300);
    Check.due("warmth 1, 200 / 12 is cut", city.warmth(1), -284);
    Check.due("warmth 6", city.warmth(6), -200);
    Check.due("warmth 11", city.warmth(11), -117);
    Check.due("warmth 12", city.warmth(12), -100);
    Check.due("warmth 13", city.warmth(13), -117);
    Check.due("warmth 20", city.warmth(20), -234);
    Check.due("warmth 23", city.warmth(23), -284);
    Check.due("warmth 24, the next day", city.warmth(24), -150);
    Check.due("warmth 503", city.warmth(503), -142);
    city.weather(20, 100, 200, 5, 80);
    Check.due("warmth 480", city.warmth(480), 100);
    Check.due("warmth 503 told", city.warmth(503), 108);
    Check.due("warmth 504 stays", city.warmth(504), -150);
    Check.fails("warmth -1", city, Check.ARGUMENT, () -> city.warmth(-1));
    Check.fails("warmth 505", city, Check.ARGUMENT, () -> city.warmth(505));
    Check.fails("warmth least", city, Check.ARGUMENT, () -> city.warmth(Integer.MIN_VALUE));
    Check.fails("warmth most", city, Check.ARGUMENT, () -> city.warmth(Integer.MAX_VALUE));
  }

  private static void wet() {
    Snowpalace city = new Snowpalace();
    city.weather(0, -300, -200, 5, 50);
    city.weather(1, 0, 0, 5, 99);
    city.weather(2, 0, 0, 5, 0);
    city.weather(3, 7, 7, 5, 100);
    Check.due("wet 12", city.wet(12), -225);
    Check.due("wet of 99, half is cut", city.wet(24), 0);
    Check.due("wet of 0", city.wet(48), -50);
    Check.due("wet of 100", city.wet(72), 7);
    Check.due("wet 503", city.wet(503), -152);
    city.weather(2, 0, 0, 5, 97);
    Check.due("wet of 97, half is cut", city.wet(48), -1);
    Check.fails("wet -1", city, Check.ARGUMENT, () -> city.wet(-1));
    Check.fails("wet 504", city, Check.ARGUMENT, () -> city.wet(504));
    Check.fails("wet least", city, Check.ARGUMENT, () -> city.wet(Integer.MIN_VALUE));
  }

  private static void go() {
    Snowpalace city = new Snowpalace();
    Check.due("go 1", city.go(1), 1);
    Check.due("now 1", city.now(), 1);
    Check.due("go 48", city.go(48), 49);
    Check.fails("go 0", city, Check.ARGUMENT, () -> city.go(0));
    Check.fails("go -1", city, Check.ARGUMENT, () -> city.go(-1));
    Check.fails("go 49", city, Check.ARGUMENT, () -> city.go(49));
    Check.fails("go most", city, Check.ARGUMENT, () -> city.go(Integer.MAX_VALUE));
    for (int i = 0; i < 9; i++) {
      city.go(48);
    }
    Check.due("now 481", city.now(), 481);
    Check.fails("go to 505", city, Check.STATE, () -> city.go(24));
    Check.fails("go too far and too much", city, Check.ARGUMENT, () -> city.go(49));
    Check.due("go to 504", city.go(23), 504);
    Check.fails("go from 504", city, Check.STATE, () -> city.go(1));
    Check.fails("weather when all is over", city, Check.UNSUPPORTED, () -> city.weather(20, 0, 0, 0, 0));
    Check.due("now 504", city.now(), 504);
  }

  private static void hourBeforeHour() {
    Snowpalace all = Check.mixedStock();
    Snowpalace single = Check.mixedStock();
    Check.column(all, 2, 6, 'c');
    Check.column(single, 2, 6, 'c');
    all.weather(7, -100, 200, 30, 10);
    single.weather(7, -100, 200, 30, 10);
    all.go(48);
    for (int i = 0; i < 48; i++) {
      single.go(1);
    }
    Check.due("48 hours are 48 times an hour", Check.all(single), Check.all(all));
  }
}
