import java.io.IOException;
import java.lang.reflect.Method;
import java.nio.file.Files;
import java.nio.file.Path;
import java.util.HashSet;
import java.util.Set;
import java.util.regex.Matcher;
import java.util.regex.Pattern;

/** The rows of README.md, each asked of the class, so that the page can't tell what is not so. */
public final class ReadmeTest {
  private static final Pattern TELLS = Pattern.compile("tell\\(x, \"([^\"]*)\"\\);");
  private static final Pattern ASKS = Pattern.compile("x\\.(\\w+)\\(([-0-9, ]*)\\);\\s*// (-?\\d+|true|false)\\b.*");

  public static void main(String[] args) throws IOException, ReflectiveOperationException {
    DoughBorder x = new DoughBorder();
    Set<String> asked = new HashSet<>();
    int wrong = 0;
    for (String line : Files.readAllLines(Path.of("README.md"))) {
      Matcher tells = TELLS.matcher(line);
      Matcher asks = ASKS.matcher(line);
      if (tells.matches()) {
        Texts.tell(x, tells.group(1));
      } else if (asks.matches()) {
        asked.add(asks.group(1));
        String got = ask(x, asks.group(1), asks.group(2));
        if (!got.equals(asks.group(3))) {
          wrong++;
          System.out.println("README.md says: " + line + "\n  answered was " + got);
        }
      } else if (line.startsWith("x.") || line.startsWith("tell(")) {
        wrong++;
        System.out.println("README.md has a row that can't be asked: " + line);
      }
    }
    if (asked.size() < 24) {
      wrong++;
      System.out.println("README.md shows only " + asked);
    }
    System.out.println(wrong == 0 ? "the page is right" : wrong + " rows of the page are wrong");
    if (wrong != 0) System.exit(1);
  }

  private static String ask(DoughBorder x, String name, String with) throws ReflectiveOperationException {
    String[] numbers = with.isEmpty() ? new String[0] : with.split(",");
    Class<?>[] types = new Class<?>[numbers.length];
    Object[] values = new Object[numbers.length];
    for (int k = 0; k < numbers.length; k++) {
      types[k] = int.class;
      values[k] = Integer.parseInt(numbers[k].trim());
    }
    Method method = DoughBorder.class.getMethod(name, types);
    return method.invoke(x, values).toString();
  }
}
