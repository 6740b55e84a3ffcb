import java.nio.charset.StandardCharsets;
import java.util.Arrays;

/** What the tests share: texts put on the TAPE, WORDS read back, answers compared. */
final class Check {
  private int wrong = 0;

  void due(String call, long got, long want) {
    if (got != want) {
      wrong++;
      System.out.println(call + " answered " + got + ", due is " + want);
    }
  }

  void due(String call, String got, String want) {
    if (!got.equals(want)) {
      wrong++;
      System.out.println(call + " answered '" + got + "', due is '" + want + "'");
    }
  }

  void finish(String test) {
    System.out.println(test + ": " + (wrong == 0 ? "all answers are as due" : wrong + " answers are not as due"));
    if (wrong != 0) {
      System.exit(1);
    }
  }

  static void tape(DayWords x, String text) {
    byte[] bytes = text.getBytes(StandardCharsets.ISO_8859_1);
    int had = x.count(6);
    byte[] padded = Arrays.copyOf(bytes, (bytes.length + 19) / 20 * 20);
    for (int i = 0; i < padded.length; i += 20) {
      int[] v = new int[5];
      for (int j = 0; j < 20; j++) {
        v[j / 4] = v[j / 4] << 8 | padded[i + j] & 255;
      }
      x.feed(v[0], v[1], v[2], v[3], v[4]);
    }
    x.end(had + bytes.length);
  }

  static DayWords made(String text) {
    DayWords x = new DayWords();
    tape(x, text);
    int lines = x.desk();
    if (lines < 0) {
      throw new IllegalStateException("fault " + x.fault(0) + " at " + x.fault(1) + " of " + text);
    }
    return x;
  }

  static int desk(DayWords x, String text) {
    tape(x, text);
    return x.desk();
  }

  static int tells(DayWords x, String text) {
    tape(x, text);
    return x.tells();
  }

  static int sets(DayWords x, int train, String text) {
    tape(x, text);
    return x.sets(train);
  }

  static String text(DayWords x, int train) {
    StringBuilder b = new StringBuilder();
    for (int i = 0; i < x.length(train); i++) {
      b.append((char) x.sign(train, i));
    }
    return b.toString();
  }

  /** A WORDING of just these DAYS. */
  static String also(int days) {
    if (days == 0) {
      return "never";
    }
    StringBuilder b = new StringBuilder("also");
    for (int d = 0; d < 28; d++) {
      if ((days >> d & 1) != 0) {
        b.append(' ').append(d);
      }
    }
    return b.toString();
  }
}
