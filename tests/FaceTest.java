import java.io.IOException;
import java.lang.reflect.Constructor;
import java.lang.reflect.Field;
import java.lang.reflect.Method;
import java.lang.reflect.Modifier;
import java.nio.file.Files;
import java.nio.file.Path;
import java.util.ArrayList;
import java.util.List;
import java.util.TreeSet;

/** The face as the document shows it, and the rules of LANGUAGE.md that can be seen from outside or by words. */
public final class FaceTest {
  public static void main(String[] args) throws IOException {
    if (args.length < 2) {
      System.out.println("usage: FaceTest Snowpalace.java DOC.md");
      System.exit(1);
    }
    face(Files.readString(Path.of(args[1])));
    members();
    words(Files.readString(Path.of(args[0])));
    Check.end();
  }

  /** Each line of the document's face, against what reflection tells. */
  private static void face(String doc) {
    TreeSet<String> wanted = new TreeSet<>();
    int from = doc.indexOf("public final class Snowpalace {");
    int to = doc.indexOf("\n}", from);
    for (String line : doc.substring(from, to).split("\n")) {
      String each = line.strip();
      if (each.startsWith("public ") && !each.contains(" class ") && !each.startsWith("public Snowpalace(")) {
        wanted.add(shown(each));
      }
    }
    TreeSet<String> got = new TreeSet<>();
    for (Method method : Snowpalace.class.getDeclaredMethods()) {
      if (Modifier.isPublic(method.getModifiers())) {
        got.add(shown(method));
      }
    }
    Check.due("number of methods", wanted.size(), 43);
    Check.due("methods of the face", got.toString(), wanted.toString());
    Constructor<?>[] makers = Snowpalace.class.getDeclaredConstructors();
    Check.due("constructors", makers.length, 1);
    Check.due("its kind", makers[0].toString(), "public Snowpalace()");
    Check.due("class", Modifier.toString(Snowpalace.class.getModifiers()), "public final");
  }

  private static String shown(String line) {
    String head = line.substring("public ".length(), line.indexOf('('));
    String[] parameters = line.substring(line.indexOf('(') + 1, line.indexOf(')')).split(",");
    List<String> types = new ArrayList<>();
    for (String parameter : parameters) {
      if (!parameter.isBlank()) {
        types.add(parameter.strip().split(" ")[0]);
      }
    }
    String thrown = line.contains(" throws ") ? line.substring(line.indexOf(" throws ") + 8).replace(";", "") : "";
    return head + types + thrown.replace(" ", "");
  }

  private static String shown(Method method) {
    List<String> types = new ArrayList<>();
    for (Class<?> type : method.getParameterTypes()) {
      types.add(type.getSimpleName());
    }
    List<String> thrown = new ArrayList<>();
    for (Class<?> type : method.getExceptionTypes()) {
      thrown.add(type.getSimpleName());
    }
    return method.getReturnType().getSimpleName() + " " + method.getName() + types + String.join(",", thrown);
  }

  private static void members() {
    TreeSet<String> names = new TreeSet<>();
    for (Method method : Snowpalace.class.getDeclaredMethods()) {
      boolean isPublic = Modifier.isPublic(method.getModifiers());
      Check.due(method.getName() + " is public or private", isPublic || Modifier.isPrivate(method.getModifiers()), true);
      Check.due(method.getName() + " is there once", names.add(method.getName()), true);
      Check.due(method.getName() + " has seven parameters at most", method.getParameterCount() <= 7, true);
    }
    for (Field field : Snowpalace.class.getDeclaredFields()) {
      int modifiers = field.getModifiers();
      Check.due(field.getName() + " is private", Modifier.isPrivate(modifiers), true);
      Check.due(field.getName() + " is final if static", !Modifier.isStatic(modifiers) || Modifier.isFinal(modifiers), true);
    }
    for (Class<?> inside : Snowpalace.class.getDeclaredClasses()) {
      Check.due(inside + " is static", Modifier.isStatic(inside.getModifiers()), true);
      Check.due(inside + " is not public", Modifier.isPublic(inside.getModifiers()), false);
    }
  }

  /** Words that the rules leave out; comments may not hold them either, which keeps this simple. */
  private static void words(String source) {
    String[] out = {"->", "::", "try", "catch", "finally", "synchronized", "assert", "package ", "while (true", "for (;;", "Exact(",
        "String.format", "System.", "Float.", "Double.", "Object ", "protected", "instanceof", "equals(", "hashCode", "toString", "var "};
    for (String word : out) {
      Check.due("the program holds " + word, source.contains(word), false);
    }
    boolean ascii = true;
    int imports = 0;
    for (String line : source.split("\n")) {
      ascii = ascii && line.chars().allMatch(sign -> sign >= 32 && sign < 127);
      imports += line.startsWith("import ") ? 1 : 0;
    }
    Check.due("the program's signs are plain", ascii, true);
    Check.due("imports", imports, 1);
    Check.due("the import", source.contains("import java.util.NoSuchElementException;"), true);
  }
}
