import java.util.Random;

/** Calls in any order with any arguments: none throws, none is out of its bounds, none is slow. */
public final class StormTest {
  private static final Check CHECK = new Check();
  private static final String[] WORDS = {"desk", "days", "first", "feast", "train", "at", "never", "daily", "from", "to", "not",
      "also", "mo", "tu", "we", "th", "fr", "sa", "su", "ab", "cd", "abcdefghi", "0", "1", "3", "8", "13", "28", "1440",
      "99999999999", ";", ":", "-", "#", " ", "\n"};
  private static final String HEAD = "desk days 14 first we;feast ab 1 3;feast cd 8 13;train 1 at 1:mo;train 1 at 1:not ab;train 0 at 3:daily to 8;";

  public static void main(String[] args) {
    Random random = new Random(46);
    for (int round = 0; round < 700; round++) {
      DayWords x = round % 3 == 0 ? new DayWords() : Check.made(HEAD);
      for (int call = 0; call < 200; call++) {
        anyCall(random, x);
      }
    }
    readers(random);
    longTapes();
    CHECK.finish("StormTest");
  }

  private static int any(Random random) {
    switch (random.nextInt(8)) {
      case 0: return random.nextInt();
      case 1: return random.nextBoolean() ? Integer.MAX_VALUE : Integer.MIN_VALUE;
      case 2: return -random.nextInt(30);
      case 3: return random.nextInt(30);
      default: return random.nextInt(6);
    }
  }

  private static void anyCall(Random random, DayWords x) {
    int a = any(random);
    int b = any(random);
    int c = any(random);
    switch (random.nextInt(48)) {
      case 0: x.feed(a, b, c, any(random), any(random)); break;
      case 1: x.end(a); break;
      case 2: x.desk(); break;
      case 3: x.fault(a); break;
      case 4: x.count(a); break;
      case 5: x.weekday(a); break;
      case 6: x.feast(a); break;
      case 7: x.train(a, b); break;
      case 8: x.days(a); break;
      case 9: x.runs(a, b); break;
      case 10: x.many(a); break;
      case 11: x.votes(a, b); break;
      case 12: x.vote(a); break;
      case 13: x.strays(a); break;
      case 14: x.next(a, b); break;
      case 15: x.rest(a); break;
      case 16: x.words(a); break;
      case 17: x.length(a); break;
      case 18: x.sign(a, b); break;
      case 19: x.ways(a); break;
      case 20: x.spans(a); break;
      case 21: x.span(a, b, c); break;
      case 22: x.nots(a, b); break;
      case 23: x.alsos(a, b); break;
      case 24: x.within(a, b); break;
      case 25: x.plain(a); break;
      case 26: x.other(a, b); break;
      case 27: x.shift(a, b); break;
      case 28: x.least(a); break;
      case 29: x.tells(); break;
      case 30: x.told(a); break;
      case 31: x.worse(); break;
      case 32: x.shares(a, b); break;
      case 33: x.same(a, b); break;
      case 34: x.join(a); break;
      case 35: x.joint(a); break;
      case 36: x.twice(a); break;
      case 37: x.saved(); break;
      case 38: x.crowd(a); break;
      case 39: x.full(); break;
      case 40: x.flips(a, b); break;
      case 41: x.sets(a); break;
      case 42: x.merges(); break;
      case 43: x.undo(); break;
      case 44: x.anew(); break;
      default: Check.pour(x, anyText(random)); break;
    }
  }

  private static String anyText(Random random) {
    StringBuilder b = new StringBuilder(random.nextInt(3) == 0 ? HEAD : "");
    int many = random.nextInt(12);
    for (int i = 0; i < many; i++) {
      b.append(WORDS[random.nextInt(WORDS.length)]).append(random.nextInt(9) == 0 ? "" : " ");
    }
    return b.toString();
  }

  /** A FAULT stays where it is, whatever comes behind its place; a WORDING read is one of its DAYS. */
  private static void readers(Random random) {
    DayWords x = Check.made(HEAD);
    for (int i = 0; i < 20000; i++) {
      // What an object answers behind its 512th call is free.
      x = i % 20 == 0 ? Check.made(HEAD) : x;
      StringBuilder b = new StringBuilder();
      int many = 1 + random.nextInt(9);
      for (int k = 0; k < many; k++) {
        b.append(WORDS[6 + random.nextInt(21)]).append(' ');
      }
      String text = b.toString();
      int days = Check.tells(x, text);
      if (days == -4) {
        int fault = x.told(2);
        int place = x.told(3);
        CHECK.due("a fault is 1 or 2: " + text, fault == 1 || fault == 2 ? 1 : 0, 1);
        if (place < text.length()) {
          int behind = text.indexOf(' ', place);
          CHECK.due("cut: " + text, Check.tells(x, text.substring(0, behind)), -4);
          CHECK.due("cut fault: " + text, x.told(2), fault);
          CHECK.due("cut place: " + text, x.told(3), place);
          String ahead = text.substring(0, place);
          boolean early = Check.tells(x, ahead) == -4;
          CHECK.due("ahead of the fault: " + text, early ? x.told(3) : place, place);
        }
      } else {
        CHECK.due("tokens: " + text, x.told(1), many);
        CHECK.due("no fewer than the fewest: " + text, x.worse() >= 0 ? 1 : 0, 1);
        CHECK.due("its days: " + text, Integer.bitCount(x.told(0)), days);
      }
    }
  }

  /** Full TAPES of one sign each: the most TOKENS, the longest word, the longest number. */
  private static void longTapes() {
    for (String sign : new String[] {";", "a", "9", " ", "-", "\u00ff", "0"}) {
      DayWords x = Check.made(HEAD);
      Check.tape(x, sign.repeat(600));
      CHECK.due("full tape", x.count(6), 600);
      CHECK.due("desk of " + sign, x.desk(), sign.equals(" ") ? 0 : -4);
      x = Check.made(HEAD);
      CHECK.due("tells " + sign, Check.tells(x, sign.repeat(600)), -4);
      CHECK.due("place " + sign, x.told(3), sign.equals(" ") ? 600 : 0);
    }
    DayWords x = Check.made(HEAD);
    CHECK.due("a long zero is a day", Check.tells(x, "also " + "0".repeat(594) + "7"), 1);
    CHECK.due("which one", x.told(0), 128);
  }
}
