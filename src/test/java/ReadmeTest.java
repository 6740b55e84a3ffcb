import java.io.IOException;
import java.lang.reflect.Method;
import java.lang.reflect.Modifier;
import java.nio.file.Files;
import java.nio.file.Path;
import java.util.Set;
import java.util.TreeSet;
import java.util.regex.Matcher;
import java.util.regex.Pattern;

/** What README.md says: its example answers so, every call and every test is told there. */
public final class ReadmeTest {
  private static final Check CHECK = new Check();
  private static final Pattern PUT = Pattern.compile("^put\\(x, \"(.*)\"\\);$");
  private static final Pattern ASK = Pattern.compile("^x\\.(\\w+)\\(([^)]*)\\); +// (-?\\d+).*$");

  public static void main(String[] args) throws Exception {
    String page = Files.readString(Path.of("README.md"));
    example(page);
    calls(page);
    tests(page);
    CHECK.finish("ReadmeTest");
  }

  private static void example(String page) throws ReflectiveOperationException {
    DayWords x = new DayWords();
    int asked = 0;
    for (String line : page.split("\n")) {
      Matcher put = PUT.matcher(line);
      Matcher ask = ASK.matcher(line);
      if (put.matches()) {
        Check.tape(x, put.group(1));
      } else if (ask.matches()) {
        asked++;
        CHECK.due("README: " + line, call(x, ask.group(1), ask.group(2)), Long.parseLong(ask.group(3)));
      }
    }
    CHECK.due("calls of the example", asked > 10 ? 1 : 0, 1);
  }

  private static long call(DayWords x, String name, String list) throws ReflectiveOperationException {
    String[] texts = list.isEmpty() ? new String[0] : list.split(", ");
    Class<?>[] types = new Class<?>[texts.length];
    Object[] values = new Object[texts.length];
    for (int i = 0; i < texts.length; i++) {
      types[i] = int.class;
      values[i] = Integer.valueOf(texts[i]);
    }
    return ((Number) DayWords.class.getMethod(name, types).invoke(x, values)).longValue();
  }

  private static void calls(String page) {
    String table = page.substring(page.indexOf("| what you want |"), page.indexOf("## Tests"));
    Set<String> told = new TreeSet<>();
    Matcher m = Pattern.compile("`(\\w+)`").matcher(table);
    while (m.find()) {
      CHECK.due("told once: " + m.group(1), told.add(m.group(1)) ? 1 : 0, 1);
    }
    Set<String> face = new TreeSet<>();
    for (Method method : DayWords.class.getDeclaredMethods()) {
      if (Modifier.isPublic(method.getModifiers())) {
        face.add(method.getName());
      }
    }
    CHECK.due("calls that README.md tells", told.toString(), face.toString());
  }

  private static void tests(String page) throws IOException {
    try (var files = Files.list(Path.of("src/test/java"))) {
      files.map(f -> f.getFileName().toString().replace(".java", "")).filter(n -> n.endsWith("Test"))
          .forEach(n -> CHECK.due("README.md tells " + n, page.contains("\n| " + n + " |") ? 1 : 0, 1));
    }
  }
}
