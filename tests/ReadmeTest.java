import java.io.File;
import java.io.IOException;
import java.nio.file.Files;
import java.nio.file.Path;
import java.util.ArrayList;
import java.util.Arrays;
import java.util.List;
import java.util.TreeSet;
import java.util.regex.Matcher;
import java.util.regex.Pattern;

/** What README.md shows: its example works as it says, and the files it names are those that are there. */
public final class ReadmeTest {
  public static void main(String[] args) throws IOException {
    if (args.length < 3) {
      System.out.println("usage: ReadmeTest Snowpalace.java DOC.md folder");
      System.exit(1);
    }
    Path folder = Path.of(args[2]);
    String readme = Files.readString(folder.resolve("README.md"));
    example();
    sameLines(readme, Files.readString(folder.resolve("tests").resolve("ReadmeTest.java")));
    files(readme, folder);
    Check.end();
  }

  private static void example() {
    // the example begins
    Snowpalace city = new Snowpalace();
    city.weather(0, -400, -300, 5, 50);
    city.machine(true);
    int clock = city.go(24);
    int left = city.cut(0, 4);
    int snow = city.lorries(2);
    int site = city.site();
    city.put(site, 0, 0, 'c');
    city.put(site, 0, 1, 'c');
    city.put(site, 2, 0, 's');
    city.put(site, 2, 1, 's');
    int cells = city.put(site, 1, 1, 'c');
    city.lamp(site, 1, 1, true);
    float light = Float.intBitsToFloat(city.lightBits(site, 0, 1));
    int came = city.visit(site, 30);
    int fell = city.carve(site, 2, 1, 50);
    double mark = city.judge(site);
    int mass = city.take(site, 1, 1);
    int money = city.money();
    // the example ends
    Check.due("clock", clock, 24);
    Check.due("places left", left, 36);
    Check.due("blocks left", city.yard(true), 1);
    Check.due("snow of 24 hours and 2 lorries", snow, 58);
    Check.due("site", site, 0);
    Check.due("cells", cells, 5);
    Check.due("light", light, 0.75f * 0.75f);
    Check.due("visitors", came, 30);
    Check.due("fell", fell, 0);
    Check.due("mark", mark, 43.0 / 48.0);
    Check.due("mass", mass, 500);
    Check.due("money", money, -4 * 20 - 2 * 100 - 5 * 10 - 50 + 30 * 5);
  }

  /** The lines of the example as README.md shows them, and as they were run above. */
  private static void sameLines(String readme, String source) {
    int from = readme.indexOf("```java\n") + "```java\n".length();
    List<String> shown = lines(readme.substring(from, readme.indexOf("```", from)));
    String mark = "    // the example ";
    int begins = source.indexOf(mark + "begins\n") + (mark + "begins\n").length();
    Check.due("the example", shown, lines(source.substring(begins, source.indexOf(mark + "ends\n"))));
  }

  private static List<String> lines(String text) {
    List<String> lines = new ArrayList<>();
    for (String line : text.split("\n")) {
      lines.add(line.replaceAll("//.*", "").strip());
    }
    return lines;
  }

  private static void files(String readme, Path folder) {
    TreeSet<String> named = new TreeSet<>();
    Matcher found = Pattern.compile("`tests/(\\w+\\.java)`").matcher(readme);
    while (found.find()) {
      named.add(found.group(1));
    }
    String[] there = folder.resolve("tests").toFile().list();
    Check.due("the tests named", named, new TreeSet<>(Arrays.asList(there == null ? new String[0] : there)));
    File run = folder.resolve(".ci").resolve("run").toFile();
    Check.due(".ci/run can be run", run.canExecute(), true);
    for (String each : new String[] {"src/main/java/Snowpalace.java", "NOTES.md"}) {
      Check.due(each + " is there", readme.contains(each) && folder.resolve(each).toFile().isFile(), true);
    }
  }
}
