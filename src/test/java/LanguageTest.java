import java.lang.reflect.Field;
import java.lang.reflect.Method;
import java.lang.reflect.Modifier;
import java.nio.file.Files;
import java.nio.file.Path;
import java.util.Set;
import java.util.TreeSet;
import java.util.regex.Matcher;
import java.util.regex.Pattern;

/** The face of the document, and those rules of LANGUAGE.md that a program can look after. */
public final class LanguageTest {
  private static final Check CHECK = new Check();
  private static final String FACE = "feed(int,int,int,int,int) end(int) desk() fault(int) count(int) weekday(int) feast(int) train(int,int) "
      + "days(int) runs(int,int) many(int) votes(int,int) vote(int) strays(int) next(int,int) rest(int) words(int) length(int) "
      + "sign(int,int) ways(int) spans(int) span(int,int,int) nots(int,int) alsos(int,int) within(int,int) plain(int) "
      + "other(int,int) shift(int,int) least(int) tells() told(int) worse() shares(int,int) same(int,int) join(int) joint(int) "
      + "twice(int) saved() crowd(int) full() flips(int,int) sets(int) merges() undo() anew()";

  public static void main(String[] args) throws Exception {
    face();
    classes();
    String source = Files.readString(Path.of("src/main/java/DayWords.java"));
    words(bare(source));
    methods(bare(source));
    CHECK.finish("LanguageTest");
  }

  private static void face() throws Exception {
    CHECK.due("public final", DayWords.class.getModifiers() & (Modifier.PUBLIC | Modifier.FINAL), Modifier.PUBLIC | Modifier.FINAL);
    Set<String> want = new TreeSet<>(Set.of(FACE.split(" ")));
    Set<String> got = new TreeSet<>();
    Set<String> names = new TreeSet<>();
    for (Method m : DayWords.class.getDeclaredMethods()) {
      if (Modifier.isPublic(m.getModifiers())) {
        StringBuilder b = new StringBuilder();
        for (Class<?> p : m.getParameterTypes()) {
          b.append(b.length() == 0 ? "" : ",").append(p);
        }
        got.add(m.getName() + "(" + b + ")");
        names.add(m.getName());
        CHECK.due("type of " + m, m.getReturnType().toString(), m.getName().equals("ways") ? "long" : "int");
        CHECK.due("an object's: " + m, Modifier.isStatic(m.getModifiers()) ? 1 : 0, 0);
      } else {
        CHECK.due("private: " + m, Modifier.isPrivate(m.getModifiers()) ? 1 : 0, 1);
      }
    }
    CHECK.due("the face", got.toString(), want.toString());
    CHECK.due("constructors", DayWords.class.getConstructors().length, 1);
    for (Field f : DayWords.class.getDeclaredFields()) {
      boolean open = f.getName().equals("NONE");
      CHECK.due("private: " + f, Modifier.isPrivate(f.getModifiers()) ? 1 : 0, open ? 0 : 1);
    }
    for (Class<?> inside : DayWords.class.getDeclaredClasses()) {
      for (Method m : inside.getDeclaredMethods()) {
        CHECK.due("a name of the face inside: " + m, names.contains(m.getName()) ? 1 : 0, 0);
      }
    }
  }

  private static void classes() {
    Class<?>[] inside = DayWords.class.getDeclaredClasses();
    CHECK.due("twelve classes at most", inside.length + 1 <= 12 ? 1 : 0, 1);
    fields(DayWords.class);
    for (Class<?> c : inside) {
      CHECK.due("static: " + c, Modifier.isStatic(c.getModifiers()) ? 1 : 0, 1);
      CHECK.due("none inside: " + c, c.getDeclaredClasses().length, 0);
      fields(c);
    }
  }

  private static void fields(Class<?> c) {
    int own = 0;
    for (Field f : c.getDeclaredFields()) {
      if (Modifier.isStatic(f.getModifiers())) {
        CHECK.due("final: " + f, Modifier.isFinal(f.getModifiers()) ? 1 : 0, 1);
        CHECK.due("a constant: " + f, f.getType().isPrimitive() || f.getType() == String.class ? 1 : 0, 1);
      } else {
        own++;
      }
    }
    CHECK.due("twenty fields at most: " + c, own <= 20 ? 1 : 0, 1);
  }

  /** The source without comments, texts and signs. */
  private static String bare(String source) {
    return source.replaceAll("(?s)/\\*.*?\\*/", "").replaceAll("//[^\n]*", "").replaceAll("\"[^\"\n]*\"", "TEXT").replaceAll("'[^'\n]'", "SIGN");
  }

  private static void words(String bare) {
    for (String word : "throw throws try catch synchronized assert import package double float native volatile transient".split(" ")) {
      CHECK.due("word " + word, Pattern.compile("\\b" + word + "\\b").matcher(bare).find() ? 1 : 0, 0);
    }
    CHECK.due("lambda", bare.contains("->") || bare.contains("::") ? 1 : 0, 0);
    CHECK.due("exact", bare.contains("Exact(") ? 1 : 0, 0);
    CHECK.due("endless loop", bare.contains("while (true)") || bare.contains("for (;;)") ? 1 : 0, 0);
    Set<String> allowed = Set.of("Integer.bitCount", "Integer.numberOfTrailingZeros", "Math.min", "Math.max", "System.arraycopy", "KEYWORDS.length", "KEYWORDS.charAt");
    Matcher m = Pattern.compile("\\b([A-Z]\\w*\\.\\w+)\\(").matcher(bare);
    while (m.find()) {
      CHECK.due("library: " + m.group(1), allowed.contains(m.group(1)) ? 1 : 0, 1);
    }
    for (int i = 0; i < bare.length(); i++) {
      CHECK.due("sign " + (int) bare.charAt(i), bare.charAt(i) < 127 ? 1 : 0, 1);
    }
  }

  /** Methods begin by a line that ends in ') {' and end by a brace at the same depth. */
  private static void methods(String bare) {
    String[] lines = bare.split("\n");
    Pattern head = Pattern.compile("^( +)(?:(?:public|private|static|final) )*(?:[\\w\\[\\]]+ )?\\w+\\(([^)]*)\\) \\{$");
    for (int i = 0; i < lines.length; i++) {
      Matcher m = head.matcher(lines[i]);
      if (m.find() && !lines[i].matches(" +(?:if|for|while|switch|else) .*")) {
        int end = i;
        while (end < lines.length - 1 && !lines[end].equals(m.group(1) + "}")) {
          end++;
        }
        CHECK.due("sixty lines at most: " + lines[i], end - i <= 60 ? 1 : 0, 1);
        CHECK.due("seven parameters at most: " + lines[i], m.group(2).split(",").length <= 7 ? 1 : 0, 1);
      }
    }
  }
}
