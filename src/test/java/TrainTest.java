import java.util.Random;

/** Promises 10 to 17 and 34 to 41: DAYS of TRAINS, alone and beside one another. */
public final class TrainTest {
  private static final Check CHECK = new Check();

  public static void main(String[] args) {
    byHand();
    together();
    noTrains();
    byPlainCounting();
    CHECK.finish("TrainTest");
  }

  private static void byHand() {
    // th fr sa su mo tu we th fr sa su
    DayWords x = Check.made("desk days 11 first th;train 1 at 1:th sa not 9 also 3 4;train 2 at 2:never;train 3 at 3:daily;");
    CHECK.due("days", x.days(0), 0b00010011101);
    CHECK.due("days 3", x.days(3), -2);
    CHECK.due("days -1", x.days(-1), -2);
    CHECK.due("runs", x.runs(0, 0), 1);
    CHECK.due("runs not", x.runs(0, 1), 0);
    CHECK.due("runs last", x.runs(2, 10), 1);
    CHECK.due("runs 11", x.runs(0, 11), -2);
    CHECK.due("runs -1", x.runs(0, -1), -2);
    CHECK.due("runs of 3", x.runs(3, 0), -2);
    CHECK.due("many", x.many(0), 5);
    CHECK.due("many none", x.many(1), 0);
    CHECK.due("many 3", x.many(3), -2);
    CHECK.due("votes th", x.votes(0, 3), 2);
    CHECK.due("votes sa", x.votes(0, 5), 1);
    CHECK.due("votes mo", x.votes(0, 0), 1);
    CHECK.due("votes fr", x.votes(0, 4), 0);
    CHECK.due("votes 7", x.votes(0, 7), -2);
    CHECK.due("votes -1", x.votes(0, -1), -2);
    CHECK.due("votes of 3", x.votes(3, 0), -2);
    // sa, su are a tie: no vote; mo has one DAY.
    CHECK.due("vote", x.vote(0), 0b0001001);
    CHECK.due("strays", x.strays(0), 2);
    CHECK.due("vote none", x.vote(1), 0);
    CHECK.due("strays none", x.strays(1), 0);
    CHECK.due("vote daily", x.vote(2), 127);
    CHECK.due("strays daily", x.strays(2), 0);
    CHECK.due("vote 3", x.vote(3), -2);
    CHECK.due("strays 3", x.strays(3), -2);
    CHECK.due("next", x.next(0, 0), 0);
    CHECK.due("next 1", x.next(0, 1), 2);
    CHECK.due("next 5", x.next(0, 5), 7);
    CHECK.due("next 8", x.next(0, 8), -1);
    CHECK.due("next none", x.next(1, 0), -1);
    CHECK.due("next 10", x.next(2, 10), 10);
    CHECK.due("next 11", x.next(2, 11), -2);
    CHECK.due("next -1", x.next(2, -1), -2);
    CHECK.due("next of 3", x.next(3, 0), -2);
    CHECK.due("rest", x.rest(0), 3);
    CHECK.due("rest none", x.rest(1), 11);
    CHECK.due("rest daily", x.rest(2), 0);
    CHECK.due("rest 3", x.rest(3), -2);
    CHECK.due("flips", x.flips(0, 9), 5);
    CHECK.due("days by acts", x.days(0), 0b01010011101);
    CHECK.due("vote by acts", x.vote(0), 0b0101001);
    CHECK.due("strays by acts", x.strays(0), 1);
  }

  private static void together() {
    DayWords x = Check.made("desk days 7 first mo;train 1 at 5:mo tu;train 1 at 6:daily;train 1 at 5:tu we;train 2 at 5:mo;"
        + "train 1 at 5:tu;train 1 at 6:also 1 2 3;");
    CHECK.due("shares", x.shares(0, 2), 2);
    CHECK.due("shares itself", x.shares(0, 0), 3);
    CHECK.due("shares 6", x.shares(0, 6), -2);
    CHECK.due("shares -1", x.shares(-1, 0), -2);
    CHECK.due("same", x.same(0, 2), 0);
    CHECK.due("same itself", x.same(4, 4), 1);
    CHECK.due("same 6", x.same(6, 0), -2);
    CHECK.due("same -1", x.same(0, -1), -2);
    int[] least = {0, 1, 0, 3, 0, 1};
    int[] joint = {7, 127, 7, 1, 7, 127};
    int[] twice = {2, 14, 2, 0, 2, 14};
    for (int t = 0; t < 6; t++) {
      CHECK.due("join " + t, x.join(t), least[t]);
      CHECK.due("joint " + t, x.joint(t), joint[t]);
      CHECK.due("twice " + t, x.twice(t), twice[t]);
    }
    CHECK.due("join 6", x.join(6), -2);
    CHECK.due("joint 6", x.joint(6), -2);
    CHECK.due("twice 6", x.twice(6), -2);
    CHECK.due("join -1", x.join(-1), -2);
    CHECK.due("joint -1", x.joint(-1), -2);
    CHECK.due("twice -1", x.twice(-1), -2);
    // 2 + 1 + 2 + 1 + 1 + 3 TOKENS, less mo - we (3), daily (1), mo (1).
    CHECK.due("saved", x.saved(), 5);
    int[] crowd = {0b001011, 0b110111, 0b100110, 0b100010, 2, 2, 2};
    for (int d = 0; d < 7; d++) {
      CHECK.due("crowd " + d, x.crowd(d), crowd[d]);
    }
    CHECK.due("crowd 7", x.crowd(7), -2);
    CHECK.due("crowd -1", x.crowd(-1), -2);
    CHECK.due("full", x.full(), 1);
    CHECK.due("flips", x.flips(3, 6), 2);
    CHECK.due("crowd by acts", x.crowd(6), 0b1010);
    CHECK.due("first of several", Check.made("desk days 5 first mo;train 1 at 1:tu th;train 1 at 1:we th;train 1 at 1:tu;").full(), 1);
    CHECK.due("saved with names", Check.made("desk days 9 first mo;feast a 2 4;train 1 at 1:daily not a;train 2 at 1:also a;train 1 at 1:also a;").saved(),
        3 + 2 + 2 - 1 - 2);
    CHECK.due("saved with a name of joint days", Check.made("desk days 28 first mo;feast a 2 12;train 1 at 1:also 2;train 1 at 1:also 12;").saved(), 2 + 2 - 2);
    CHECK.due("least can be less than none", Check.made("desk days 7 first mo;train 1 at 1:daily to 2;train 1 at 1:fr;").saved(), 0);
  }

  private static void noTrains() {
    DayWords x = Check.made("desk days 3 first mo;");
    CHECK.due("saved without trains", x.saved(), 0);
    CHECK.due("full without trains", x.full(), 0);
    CHECK.due("crowd without trains", x.crowd(2), 0);
    CHECK.due("merges without trains", x.merges(), 0);
    CHECK.due("days without trains", x.days(0), -2);
  }

  /** The same answers by counting over DAYS one by one. */
  private static void byPlainCounting() {
    Random random = new Random(7);
    for (int round = 0; round < 300; round++) {
      int n = 1 + random.nextInt(28);
      int first = random.nextInt(7);
      String[] names = {"mo", "tu", "we", "th", "fr", "sa", "su"};
      DayWords x = Check.made("desk days " + n + " first " + names[first] + ";" + "train 1 at 1:never;".repeat(2)
          + "train 2 at 1:never;train 1 at 1:never;");
      int[] days = new int[4];
      int tokens = 0;
      for (int t = 0; t < 4; t++) {
        days[t] = random.nextInt(1 << n) & (random.nextBoolean() ? -1 : random.nextInt(1 << n));
        CHECK.due("sets", Check.sets(x, t, Check.also(days[t])), Integer.bitCount(days[t]));
        tokens += x.least(days[t]);
      }
      counted(x, n, first, days[0]);
      int any = days[0] | days[1] | days[3];
      int pairs = days[0] & days[1] | days[0] & days[3] | days[1] & days[3];
      CHECK.due("joint", x.joint(3), any);
      CHECK.due("twice", x.twice(1), pairs);
      CHECK.due("saved", x.saved(), tokens - x.least(any) - x.least(days[2]));
      int fullest = 0;
      for (int d = 0; d < n; d++) {
        if (Integer.bitCount(x.crowd(d)) > Integer.bitCount(x.crowd(fullest))) {
          fullest = d;
        }
      }
      CHECK.due("full", x.full(), fullest);
    }
  }

  private static void counted(DayWords x, int n, int first, int days) {
    int[] runs = new int[7];
    int[] all = new int[7];
    int most = 0;
    int row = 0;
    for (int d = 0; d < n; d++) {
      int bit = days >> d & 1;
      CHECK.due("runs", x.runs(0, d), bit);
      runs[(first + d) % 7] += bit;
      all[(first + d) % 7]++;
      row = bit == 1 ? 0 : row + 1;
      most = Math.max(most, row);
      int next = d;
      while (next < n && (days >> next & 1) == 0) {
        next++;
      }
      CHECK.due("next", x.next(0, d), next == n ? -1 : next);
    }
    int vote = 0;
    int strays = 0;
    for (int w = 0; w < 7; w++) {
      CHECK.due("votes", x.votes(0, w), runs[w]);
      boolean voted = runs[w] > all[w] - runs[w];
      vote |= voted ? 1 << w : 0;
      strays += voted ? all[w] - runs[w] : runs[w];
    }
    CHECK.due("vote", x.vote(0), vote);
    CHECK.due("strays", x.strays(0), strays);
    CHECK.due("rest", x.rest(0), most);
  }
}
