import java.nio.charset.StandardCharsets;
import java.util.Arrays;

/** What the tests share: texts put on the TAPE, WORDS read back, answers compared. */
final class Check {
  private int wrong = 0;

  void due(String call, long got, long want) {
    if (got != want) {
      wrong++;
      System.out.println(call + " answered " + got + ", due is " + want);
    }
  }

  void due(String call, String got, String want) {
    if (!got.equals(want)) {
      wrong++;
      System.out.println(call + " answered '" + got + "', due is '" + want + "'");
    }
  }

  void finish(String test) {
    System.out.println(test + ": " + (wrong == 0 ? "all answers are as due" : wrong + " answers are not as due"));
    if (wrong != 0) {
      System.exit(1);
    }
  }

  static void tape(DayWords x, String text) {
    if (!pour(x, text)) {
      throw new IllegalStateException("no room on the tape for " + text);
    }
  }

  /** Puts a text on the TAPE, by twenty bytes a call; false if they do not all find room. */
  static boolean pour(DayWords x, String text) {
    byte[] bytes = text.getBytes(StandardCharsets.ISO_8859_1);
    int had = x.count(6);
    byte[] padded = Arrays.copyOf(bytes, (bytes.length + 19) / 20 * 20);
    for (int i = 0; i < padded.length; i += 20) {
      int[] v = new int[5];
      for (int j = 0; j < 20; j++) {
        v[j / 4] = v[j / 4] << 8 | padded[i + j] & 255;
      }
      x.feed(v[0], v[1], v[2], v[3], v[4]);
    }
    return x.end(had + bytes.length) >= 0;
  }

  static DayWords made(String text) {
    DayWords x = new DayWords();
    tape(x, text);
    int lines = x.desk();
    if (lines < 0) {
      throw new IllegalStateException("fault " + x.fault(0) + " at " + x.fault(1) + " of " + text);
    }
    return x;
  }

  static int desk(DayWords x, String text) {
    tape(x, text);
    return x.desk();
  }

  static int tells(DayWords x, String text) {
    tape(x, text);
    return x.tells();
  }

  static int sets(DayWords x, int train, String text) {
    tape(x, text);
    return x.sets(train);
  }

  static String text(DayWords x, int train) {
    StringBuilder b = new StringBuilder();
    int length = x.length(train);
    for (int i = 0; i < length; i++) {
      b.append((char) x.sign(train, i));
    }
    return b.toString();
  }

  /** Some forty answers that tell whether anything has changed, but for the bytes of the TAPE. */
  static String look(DayWords x) {
    StringBuilder b = new StringBuilder();
    b.append("fault ").append(x.fault(0)).append(' ').append(x.fault(1)).append(" count");
    for (int what = 0; what < 7; what++) {
      b.append(' ').append(x.count(what));
    }
    b.append(" feasts ").append(x.feast(0)).append(' ').append(x.feast(1)).append(" trains");
    for (int train = 0; train < 6; train++) {
      b.append(' ').append(x.train(train, 0)).append(' ').append(x.train(train, 1)).append(' ').append(x.days(train));
    }
    b.append(" told");
    for (int what = 0; what < 4; what++) {
      b.append(' ').append(x.told(what));
    }
    b.append(" worse ").append(x.worse()).append(" saved ").append(x.saved());
    b.append(" words ").append(x.words(0)).append(' ').append(x.length(0)).append(' ').append(x.ways(0));
    return b.toString();
  }

  /** A WORDING of just these DAYS. */
  static String also(int days) {
    if (days == 0) {
      return "never";
    }
    StringBuilder b = new StringBuilder("also");
    for (int d = 0; d < 28; d++) {
      if ((days >> d & 1) != 0) {
        b.append(' ').append(d);
      }
    }
    return b.toString();
  }
}
