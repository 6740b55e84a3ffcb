/** Promises 31 to 33 and 42 to 46: WORDINGS told, acts done and taken back. */
public final class ActTest {
  private static final Check CHECK = new Check();
  private static final String DESK =
      "desk days 14 first mo;feast ab 4 7;train 1 at 1:mo - fr;train 1 at 1:sa;train 2 at 2:never;";

  public static void main(String[] args) {
    told();
    flips();
    sets();
    merges();
    undoAndAnew();
    twentyActs();
    CHECK.finish("ActTest");
  }

  private static void told() {
    DayWords x = Check.made(DESK);
    for (int what = -1; what < 5; what++) {
      CHECK.due("ahead of any " + what, x.told(what), -1);
    }
    CHECK.due("worse ahead of any", x.worse(), -1);
    CHECK.due("tells", Check.tells(x, "mo tu we th fr not ab also 4 7"), 10);
    CHECK.due("the tape is empty", x.count(6), 0);
    CHECK.due("told days", x.told(0), 0b00111110011111);
    CHECK.due("told tokens", x.told(1), 10);
    CHECK.due("told fault", x.told(2), 0);
    CHECK.due("told place", x.told(3), -1);
    CHECK.due("told 4", x.told(4), -1);
    CHECK.due("told -1", x.told(-1), -1);
    CHECK.due("worse", x.worse(), 7);
    CHECK.due("no train is changed", x.days(2), 0);
    CHECK.due("no act", x.count(4), 0);
    x.flips(0, 0);
    CHECK.due("told stays by acts", x.told(1), 10);
    CHECK.due("tells a fault", Check.tells(x, "mo 3"), -4);
    CHECK.due("the tape is empty", x.count(6), 0);
    CHECK.due("what was told is gone", x.told(0), -1);
    CHECK.due("its tokens too", x.told(1), -1);
    CHECK.due("its fault", x.told(2), 1);
    CHECK.due("its place", x.told(3), 3);
    CHECK.due("worse of a fault", x.worse(), -1);
    CHECK.due("desk's fault stays", x.fault(0), 0);
    CHECK.due("tells of an empty tape", x.tells(), -4);
    CHECK.due("its place", x.told(3), 0);
    CHECK.due("tells again", Check.tells(x, "never"), 0);
    CHECK.due("told again", x.told(0), 0);
    CHECK.due("worse none", x.worse(), 0);
    CHECK.due("tells not alone", Check.tells(x, "not 3"), 0);
    CHECK.due("worse of not", x.worse(), 1);
  }

  private static void flips() {
    DayWords x = Check.made(DESK);
    CHECK.due("flips", x.flips(2, 13), 2);
    CHECK.due("days", x.days(2), 1 << 13);
    CHECK.due("acts", x.count(4), 1);
    CHECK.due("flips back", x.flips(2, 13), 1);
    CHECK.due("days back", x.days(2), 0);
    CHECK.due("acts", x.count(4), 2);
    CHECK.due("flips 14", x.flips(2, 14), -2);
    CHECK.due("flips -1", x.flips(2, -1), -2);
    CHECK.due("flips of 3", x.flips(3, 0), -2);
    CHECK.due("flips of -1", x.flips(-1, 0), -2);
    CHECK.due("acts stay", x.count(4), 2);
    // DAYS 4 and 7 are a FEAST's: its name is told.
    Check.sets(x, 2, "also ab 0 3 8 9 10 11");
    Check.sets(x, 2, "daily not 4");
    CHECK.due("flips to a feast's days", x.flips(2, 7), 3);
    CHECK.due("words behind flips", x.words(2), 3);
    CHECK.due("others stay", x.days(1), 0b01000000100000);
  }

  private static void sets() {
    DayWords x = Check.made(DESK);
    Check.tells(x, "mo");
    CHECK.due("sets", Check.sets(x, 2, "su also ab"), 4);
    CHECK.due("days", x.days(2), 1 << 4 | 1 << 6 | 1 << 7 | 1 << 13);
    CHECK.due("acts", x.count(4), 1);
    CHECK.due("the tape is empty", x.count(6), 0);
    CHECK.due("told stays", x.told(0), 0b00000010000001);
    CHECK.due("sets the same", Check.sets(x, 2, "su also ab"), 4);
    CHECK.due("an act, too", x.count(4), 2);
    CHECK.due("sets a fault", Check.sets(x, 2, "su also abc"), -4);
    CHECK.due("nothing happens", x.days(2), 1 << 4 | 1 << 6 | 1 << 7 | 1 << 13);
    CHECK.due("acts stay", x.count(4), 2);
    CHECK.due("the tape is empty", x.count(6), 0);
    CHECK.due("told stays", x.told(1), 1);
    CHECK.due("told fault stays", x.told(2), 0);
    CHECK.due("desk's fault stays", x.fault(0), 0);
    CHECK.due("sets of 3", Check.sets(x, 3, "su"), -2);
    CHECK.due("the tape stays", x.count(6), 2);
    CHECK.due("sets of -1", x.sets(-1), -2);
    CHECK.due("the tape still stays", x.sets(1), 2);
    CHECK.due("days of it", x.days(1), 1 << 6 | 1 << 13);
    CHECK.due("sets of an empty tape", x.sets(1), -4);
  }

  private static void merges() {
    DayWords x = Check.made(DESK);
    CHECK.due("merges", x.merges(), 2);
    CHECK.due("the least", x.days(0), 0b01111110111111);
    CHECK.due("the other", x.days(1), 0);
    CHECK.due("alone", x.days(2), 0);
    CHECK.due("acts", x.count(4), 1);
    CHECK.due("merges again", x.merges(), 0);
    CHECK.due("an act, too", x.count(4), 2);
    CHECK.due("undo", x.undo(), 1);
    CHECK.due("undo", x.undo(), 0);
    CHECK.due("back", x.days(0), 0b00111110011111);
    CHECK.due("back", x.days(1), 0b01000000100000);
    x = Check.made("desk days 7 first mo;train 1 at 1:never;train 3 at 3:su;train 1 at 1:mo;train 3 at 3:never;train 1 at 1:tu;train 1 at 3:we;");
    CHECK.due("merges of many", x.merges(), 3);
    int[] days = {3, 64, 0, 0, 0, 4};
    for (int t = 0; t < 6; t++) {
      CHECK.due("merged " + t, x.days(t), days[t]);
    }
  }

  private static void undoAndAnew() {
    DayWords x = Check.made(DESK);
    CHECK.due("undo none", x.undo(), -5);
    CHECK.due("anew none", x.anew(), 0);
    x.flips(0, 0);
    Check.sets(x, 1, "daily");
    x.merges();
    x.flips(2, 5);
    CHECK.due("undo the flip", x.undo(), 3);
    CHECK.due("flipped back", x.days(2), 0);
    CHECK.due("merged still", x.days(0), (1 << 14) - 1);
    CHECK.due("undo the merge", x.undo(), 2);
    CHECK.due("not merged", x.days(0), 0b00111110011110);
    CHECK.due("set still", x.days(1), (1 << 14) - 1);
    CHECK.due("undo the set", x.undo(), 1);
    CHECK.due("not set", x.days(1), 0b01000000100000);
    x.flips(1, 1);
    x.flips(2, 2);
    CHECK.due("anew", x.anew(), 3);
    CHECK.due("all as told", x.days(0), 0b00111110011111);
    CHECK.due("all as told", x.days(1), 0b01000000100000);
    CHECK.due("all as told", x.days(2), 0);
    CHECK.due("no acts", x.count(4), 0);
    CHECK.due("undo none", x.undo(), -5);
    CHECK.due("words as told", x.words(0), 3);
    x.flips(2, 3);
    CHECK.due("anew of one", x.anew(), 1);
    CHECK.due("as told", x.days(2), 0);
  }

  private static void twentyActs() {
    DayWords x = Check.made(DESK);
    for (int i = 0; i < 18; i++) {
      x.flips(2, i % 14);
    }
    x.merges();
    CHECK.due("sets", Check.sets(x, 0, "mo"), 2);
    CHECK.due("acts", x.count(4), 20);
    CHECK.due("flips refused", x.flips(0, 0), -5);
    CHECK.due("flips none such first", x.flips(0, 14), -2);
    CHECK.due("merges refused", x.merges(), -5);
    CHECK.due("sets refused", Check.sets(x, 0, "tu"), -5);
    CHECK.due("the tape is empty", x.count(6), 0);
    CHECK.due("sets refused ahead of a fault", Check.sets(x, 0, "tu mo"), -5);
    CHECK.due("the tape is empty", x.count(6), 0);
    CHECK.due("sets none such first", Check.sets(x, 3, "tu"), -2);
    CHECK.due("the tape stays", x.count(6), 2);
    CHECK.due("days stay", x.days(0), 0b00000010000001);
    CHECK.due("told stays", x.told(2), -1);
    CHECK.due("acts", x.count(4), 20);
    CHECK.due("undo", x.undo(), 19);
    CHECK.due("sets then", x.sets(0), 2);
    CHECK.due("days then", x.days(0), 0b00000100000010);
    CHECK.due("anew", x.anew(), 20);
    CHECK.due("as told", x.days(2), 0);
    for (int i = 0; i < 20; i++) {
      CHECK.due("flips " + i, x.flips(2, 0), i % 2 == 0 ? 2 : 1);
    }
    for (int i = 19; i >= 0; i--) {
      CHECK.due("undo " + i, x.undo(), i);
      CHECK.due("days " + i, x.days(2), i % 2);
    }
    CHECK.due("undo none", x.undo(), -5);
  }
}
