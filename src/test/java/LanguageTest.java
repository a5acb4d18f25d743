import java.io.IOException;
import java.lang.reflect.Field;
import java.lang.reflect.Method;
import java.lang.reflect.Modifier;
import java.nio.file.Files;
import java.nio.file.Path;
import java.util.List;
import java.util.Set;
import java.util.TreeSet;
import java.util.regex.Matcher;
import java.util.regex.Pattern;

/** What LANGUAGE.md asks of the class and can be seen by its source and its members. */
public final class LanguageTest {
  private static final Set<String> FACE = Set.of("feed", "end", "strip", "rule", "force", "mile", "village", "warm",
      "night", "horses", "salt", "sugar", "slice", "bake", "undo", "ahead", "crosses", "push", "dukes", "log", "theft",
      "weigh", "crust", "peace", "part", "seed", "summers", "count", "image", "back");
  private static int wrong = 0;

  private static void check(boolean fine, String what) {
    if (!fine) {
      wrong++;
      System.out.println(what);
    }
  }

  public static void main(String[] args) throws IOException {
    source(Files.readString(Path.of("src/main/java/DoughBorder.java")));
    face();
    Class<?>[] inside = DoughBorder.class.getDeclaredClasses();
    check(inside.length < 12, "too many classes: " + (inside.length + 1));
    members(DoughBorder.class);
    for (Class<?> c : inside) {
      check(Modifier.isStatic(c.getModifiers()), c + " is not static");
      check(!Modifier.isPublic(c.getModifiers()), c + " is public");
      members(c);
    }
    System.out.println(wrong == 0 ? "the language is kept to" : wrong + " things are outside the language");
    if (wrong != 0) System.exit(1);
  }

  private static void face() {
    check(Modifier.isFinal(DoughBorder.class.getModifiers()), "the class is not final");
    Set<String> seen = new TreeSet<>();
    for (Method m : DoughBorder.class.getDeclaredMethods()) {
      if (Modifier.isPublic(m.getModifiers())) seen.add(m.getName());
      else check(Modifier.isPrivate(m.getModifiers()), m + " is neither public nor private");
    }
    check(seen.equals(new TreeSet<>(FACE)), "the face is " + seen);
    for (Field f : DoughBorder.class.getDeclaredFields()) {
      check(f.getName().equals("NONE") || Modifier.isPrivate(f.getModifiers()), f + " can be seen");
    }
  }

  private static void members(Class<?> c) {
    int fields = 0;
    for (Field f : c.getDeclaredFields()) {
      boolean fixed = Modifier.isStatic(f.getModifiers());
      if (!fixed) fields++;
      else check(Modifier.isFinal(f.getModifiers()), f + " is not final");
    }
    check(fields <= 20, c + " has " + fields + " fields");
    for (Method m : c.getDeclaredMethods()) {
      check(m.getParameterCount() <= 7, m + " takes too many");
      boolean hidden = c != DoughBorder.class || !Modifier.isPublic(m.getModifiers());
      check(!hidden || !FACE.contains(m.getName()), m + " bears the name of a public one");
    }
  }

  private static void source(String text) {
    String code = text.replaceAll("(?s)/\\*.*?\\*/", "").replaceAll("//[^\n]*", "").replaceAll("\"[^\"\n]*\"", "\"\"");
    for (String word : List.of("throw", "throws", "try", "catch", "synchronized", "assert", "protected", "package",
        "new Random", "System\\.(?!arraycopy)\\w+", "\\w+Exact", "var")) {
      Matcher m = Pattern.compile("\\b" + word + "\\b").matcher(code);
      check(!m.find(), "'" + word + "' stands in the source");
    }
    check(!code.contains("->") && !code.contains("::"), "a lambda or a method reference");
    check(!Pattern.compile("static\\s*\\{").matcher(code).find(), "a static initialiser");
    Matcher imports = Pattern.compile("import\\s+([\\w.*]+);").matcher(code);
    while (imports.find()) check(imports.group(1).equals("java.util.Arrays"), "import " + imports.group(1));
    Matcher library = Pattern.compile("\\b(Arrays|Math|Integer|Long)\\.(\\w+)").matcher(code);
    while (library.find()) {
      check(List.of("fill", "max", "min", "abs", "bitCount").contains(library.group(2)), "library: " + library.group());
    }
    for (int k = 0; k < text.length(); k++) check(text.charAt(k) < 128, "a sign above 127 at " + k);
    lengths(text);
  }

  private static void lengths(String text) {
    String[] lines = text.split("\n");
    for (int k = 0; k < lines.length; k++) {
      Matcher m = Pattern.compile("^( {4}| {8})(?=\\S)[\\w\\[\\]<> ]+\\([^;]*\\) \\{$").matcher(lines[k]);
      if (!m.matches()) continue;
      int e = k;
      while (e < lines.length && !lines[e].equals(m.group(1) + "}")) e++;
      check(e - k <= 60, "a long method at line " + (k + 1));
    }
  }
}
