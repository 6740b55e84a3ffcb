import java.util.ArrayList;
import java.util.List;
import java.util.function.Supplier;
import java.util.function.ToLongFunction;

/**
 * Every call that the document refuses, with the first values that are not taken on both sides and
 * the farthest ones: what it answers, and that all stays as it was, the TAPE byte by byte too.
 */
public final class RefusedTest {
  private static final Check CHECK = new Check();
  private static final int[] FAR = {Integer.MIN_VALUE, Integer.MAX_VALUE};

  private record Call(String name, ToLongFunction<DayWords> call, long due) {}

  public static void main(String[] args) {
    all("no desk", RefusedTest::noDesk, wrongCalls(0, 0, 0), RefusedTest::tapeOfADesk);
    all("no desk", RefusedTest::noDesk, wantingADesk(), RefusedTest::tapeOfADesk);
    all("no desk any more", RefusedTest::noDeskAnyMore, wrongCalls(0, 0, 0), RefusedTest::tapeOfADesk);
    all("no desk any more", RefusedTest::noDeskAnyMore, wantingADesk(), RefusedTest::tapeOfADesk);
    all("a desk alone", RefusedTest::deskAlone, wrongCalls(1, 0, 0), RefusedTest::tapeOfAWording);
    all("a desk alone", RefusedTest::deskAlone, List.of(new Call("undo()", x -> x.undo(), -5)), RefusedTest::tapeOfAWording);
    all("two trains", RefusedTest::twoTrains, wrongCalls(9, 1, 2), RefusedTest::tapeOfAWording);
    all("a full desk", RefusedTest::fullDesk, wrongCalls(28, 2, 6), RefusedTest::tapeOfAWording);
    all("a full desk", RefusedTest::fullDesk, beyondTwentyActs(), RefusedTest::tapeOfAWording);
    all("a full tape", RefusedTest::fullTape, feeds(), RefusedTest::tapeOfAWording);
    CHECK.finish("RefusedTest");
  }

  private static void all(String state, Supplier<DayWords> made, List<Call> calls, ToLongFunction<DayWords> tape) {
    for (Call c : calls) {
      DayWords x = made.get();
      String had = Check.look(x);
      CHECK.due(state + ": " + c.name, c.call.applyAsLong(x), c.due);
      CHECK.due(state + ": all behind " + c.name, Check.look(x), had);
      CHECK.due(state + ": the tape behind " + c.name, tape.applyAsLong(x), 1);
    }
  }

  // The objects that are asked. Each has a TAPE that tells whether its bytes have stayed.

  private static DayWords noDesk() {
    DayWords x = new DayWords();
    Check.tape(x, "desk days 5 first tu;");
    return x;
  }

  private static DayWords noDeskAnyMore() {
    DayWords x = twoTrains();
    Check.desk(x, "desk");
    CHECK.due("no desk in its place", x.desk(), 0);
    Check.tape(x, "desk days 5 first tu;");
    return x;
  }

  private static DayWords deskAlone() {
    DayWords x = Check.made("desk days 1 first su;");
    Check.tape(x, "su also 0");
    return x;
  }

  private static DayWords twoTrains() {
    DayWords x = Check.made("desk days 9 first we;feast a 1 2;train 1 at 1:mo - fr;train 1 at 1:sa also a;");
    Check.tells(x, "daily from 2 not a");
    x.flips(0, 8);
    x.merges();
    Check.tape(x, "su also 0");
    return x;
  }

  private static DayWords fullDesk() {
    DayWords x = Check.made("desk days 28 first th;feast a 0 27;feast b 9 10 17;" + "train 9 at 1439:mo we fr;".repeat(3)
        + "train 0 at 0:daily not a b;".repeat(3));
    Check.tells(x, "daily 3");
    for (int act = 0; act < 20; act++) {
      x.flips(act % 6, act);
    }
    Check.tape(x, "su also 0");
    return x;
  }

  private static DayWords fullTape() {
    DayWords x = twoTrains();
    x.end(0);
    Check.tape(x, "su also 0" + " ".repeat(591));
    CHECK.due("the tape is full", x.count(6), 600);
    return x;
  }

  private static long tapeOfADesk(DayWords x) {
    return x.desk() == 1 && x.weekday(0) == 1 && x.weekday(4) == 5 && x.weekday(5) == -2 ? 1 : 0;
  }

  private static long tapeOfAWording(DayWords x) {
    int days = 1;
    for (int d = 0; d < x.count(0); d++) {
      days |= x.weekday(d) == 6 ? 1 << d : 0;
    }
    return x.tells() == Integer.bitCount(days) && x.told(0) == days && x.told(1) == 3 ? 1 : 0;
  }

  // The calls that are refused, by the document's own words.

  private static int[] with(int... values) {
    int[] sum = new int[values.length + FAR.length];
    System.arraycopy(values, 0, sum, 0, values.length);
    System.arraycopy(FAR, 0, sum, values.length, FAR.length);
    return sum;
  }

  /** Arguments out of their bounds in a DESK of so many DAYS, FEASTS, TRAINS. */
  private static List<Call> wrongCalls(int days, int feasts, int trains) {
    List<Call> calls = new ArrayList<>();
    for (int n : with(-1, 601)) {
      calls.add(new Call("end(" + n + ")", x -> x.end(n), -1));
    }
    calls.add(new Call("end of a byte more", x -> x.end(x.count(6) + 1), -1));
    for (int what : with(-1, 2)) {
      calls.add(new Call("fault(" + what + ")", x -> x.fault(what), -1));
    }
    for (int what : with(-1, 7)) {
      calls.add(new Call("count(" + what + ")", x -> x.count(what), -1));
    }
    for (int what : with(-1, 4)) {
      calls.add(new Call("told(" + what + ")", x -> x.told(what), -1));
    }
    for (int day : with(-1, days)) {
      calls.add(new Call("weekday(" + day + ")", x -> x.weekday(day), -2));
      calls.add(new Call("crowd(" + day + ")", x -> x.crowd(day), -2));
    }
    for (int feast : with(-1, feasts)) {
      calls.add(new Call("feast(" + feast + ")", x -> x.feast(feast), -2));
    }
    for (int bits : with(-1, 1 << days, 1 << days | 1, days == 28 ? 1 << 30 : 1 << days + 1)) {
      calls.add(new Call("least(" + bits + ")", x -> x.least(bits), -2));
    }
    for (int train : with(-1, trains)) {
      ofATrain(calls, train);
      for (int good = 0; good < trains; good++) {
        int other = good;
        calls.add(new Call("shares(" + train + ", " + good + ")", x -> x.shares(train, other), -2));
        calls.add(new Call("shares(" + good + ", " + train + ")", x -> x.shares(other, train), -2));
        calls.add(new Call("same(" + train + ", " + good + ")", x -> x.same(train, other), -2));
        calls.add(new Call("same(" + good + ", " + train + ")", x -> x.same(other, train), -2));
      }
      for (int day = 0; day < days; day += 7) {
        ofADay(calls, train, day);
      }
      ofADay(calls, train, days);
    }
    for (int train = 0; train < trains; train += Math.max(1, trains - 1)) {
      for (int day : with(-1, days)) {
        ofADay(calls, train, day);
      }
      ofAnother(calls, train);
    }
    return calls;
  }

  /** No such TRAIN, all else as it may be. */
  private static void ofATrain(List<Call> calls, int train) {
    String at = "(" + train;
    calls.add(new Call("train" + at + ", 0)", x -> x.train(train, 0), -2));
    calls.add(new Call("train" + at + ", 1)", x -> x.train(train, 1), -2));
    calls.add(new Call("train" + at + ", 2)", x -> x.train(train, 2), -2));
    calls.add(new Call("days" + at + ")", x -> x.days(train), -2));
    calls.add(new Call("many" + at + ")", x -> x.many(train), -2));
    calls.add(new Call("votes" + at + ", 0)", x -> x.votes(train, 0), -2));
    calls.add(new Call("vote" + at + ")", x -> x.vote(train), -2));
    calls.add(new Call("strays" + at + ")", x -> x.strays(train), -2));
    calls.add(new Call("rest" + at + ")", x -> x.rest(train), -2));
    calls.add(new Call("words" + at + ")", x -> x.words(train), -2));
    calls.add(new Call("length" + at + ")", x -> x.length(train), -2));
    calls.add(new Call("sign" + at + ", 0)", x -> x.sign(train, 0), -2));
    calls.add(new Call("sign" + at + ", 999)", x -> x.sign(train, 999), -2));
    calls.add(new Call("ways" + at + ")", x -> x.ways(train), -2));
    calls.add(new Call("spans" + at + ")", x -> x.spans(train), -2));
    calls.add(new Call("span" + at + ", 0, 0)", x -> x.span(train, 0, 0), -2));
    calls.add(new Call("span" + at + ", 99, 2)", x -> x.span(train, 99, 2), -2));
    calls.add(new Call("nots" + at + ", 0)", x -> x.nots(train, 0), -2));
    calls.add(new Call("nots" + at + ", 1)", x -> x.nots(train, 1), -2));
    calls.add(new Call("alsos" + at + ", 0)", x -> x.alsos(train, 0), -2));
    calls.add(new Call("alsos" + at + ", 1)", x -> x.alsos(train, 1), -2));
    calls.add(new Call("within" + at + ", 4)", x -> x.within(train, 4), -2));
    calls.add(new Call("plain" + at + ")", x -> x.plain(train), -2));
    calls.add(new Call("shift" + at + ", 0)", x -> x.shift(train, 0), -2));
    calls.add(new Call("shares" + at + at + ")", x -> x.shares(train, train), -2));
    calls.add(new Call("same" + at + at + ")", x -> x.same(train, train), -2));
    calls.add(new Call("join" + at + ")", x -> x.join(train), -2));
    calls.add(new Call("joint" + at + ")", x -> x.joint(train), -2));
    calls.add(new Call("twice" + at + ")", x -> x.twice(train), -2));
    calls.add(new Call("sets" + at + ")", x -> x.sets(train), -2));
  }

  /** No such TRAIN, or no such DAY. */
  private static void ofADay(List<Call> calls, int train, int day) {
    String at = "(" + train + ", " + day + ")";
    calls.add(new Call("runs" + at, x -> x.runs(train, day), -2));
    calls.add(new Call("next" + at, x -> x.next(train, day), -2));
    calls.add(new Call("other" + at, x -> x.other(train, day), -2));
    calls.add(new Call("flips" + at, x -> x.flips(train, day), -2));
  }

  /** A TRAIN that there is, and another argument that is out of its bounds. */
  private static void ofAnother(List<Call> calls, int train) {
    for (int weekday : with(-1, 7)) {
      calls.add(new Call("votes of " + weekday, x -> x.votes(train, weekday), -2));
    }
    for (int what : with(-1, 2)) {
      calls.add(new Call("train what " + what, x -> x.train(train, what), -2));
      calls.add(new Call("nots what " + what, x -> x.nots(train, what), -2));
      calls.add(new Call("alsos what " + what, x -> x.alsos(train, what), -2));
    }
    for (int i : new int[] {-1, Integer.MIN_VALUE}) {
      calls.add(new Call("sign " + i, x -> x.sign(train, i), -2));
      calls.add(new Call("span k " + i, x -> x.span(train, i, 0), -2));
    }
    for (int what : with(-1, 3)) {
      calls.add(new Call("span what " + what, x -> x.span(train, 0, what), -2));
    }
    for (int k : with(-1, 5)) {
      calls.add(new Call("within " + k, x -> x.within(train, k), -2));
    }
    for (int n : with(-28, 28)) {
      calls.add(new Call("shift " + n, x -> x.shift(train, n), -2));
    }
    calls.add(new Call("sign behind the last", x -> x.sign(train, x.length(train)), -1));
    calls.add(new Call("sign far behind", x -> x.sign(train, Integer.MAX_VALUE), -1));
    for (int what = 0; what < 3; what++) {
      int w = what;
      calls.add(new Call("span behind the last, what " + w, x -> x.span(train, x.spans(train), w), -1));
      calls.add(new Call("span far behind, what " + w, x -> x.span(train, Integer.MAX_VALUE, w), -1));
    }
  }

  private static List<Call> wantingADesk() {
    List<Call> calls = new ArrayList<>();
    calls.add(new Call("least(0)", x -> x.least(0), -2));
    calls.add(new Call("tells()", x -> x.tells(), -2));
    for (int what = 0; what < 4; what++) {
      int w = what;
      calls.add(new Call("told(" + w + ")", x -> x.told(w), -1));
    }
    calls.add(new Call("worse()", x -> x.worse(), -1));
    calls.add(new Call("saved()", x -> x.saved(), -2));
    calls.add(new Call("full()", x -> x.full(), -2));
    calls.add(new Call("merges()", x -> x.merges(), -2));
    calls.add(new Call("undo()", x -> x.undo(), -2));
    calls.add(new Call("anew()", x -> x.anew(), -2));
    return calls;
  }

  private static List<Call> beyondTwentyActs() {
    List<Call> calls = new ArrayList<>();
    for (int train = 0; train < 6; train++) {
      for (int day = 0; day < 28; day += 27) {
        int t = train;
        int d = day;
        calls.add(new Call("flips(" + t + ", " + d + ")", x -> x.flips(t, d), -5));
      }
    }
    calls.add(new Call("merges()", x -> x.merges(), -5));
    return calls;
  }

  private static List<Call> feeds() {
    List<Call> calls = new ArrayList<>();
    calls.add(new Call("feed of nothing", x -> x.feed(0, 0, 0, 0, 0), -1));
    calls.add(new Call("feed of blanks", x -> x.feed(0x20202020, 0x20202020, 0x20202020, 0x20202020, 0x20202020), -1));
    calls.add(new Call("end(601)", x -> x.end(601), -1));
    return calls;
  }
}
