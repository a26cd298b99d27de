import java.util.function.Supplier;

/** Part 5: each call that is refused has its STATUS, in the order in which they are asked, and changes nothing else. */
public final class RefusedTest {
  private static final Check T = new Check("RefusedTest");
  private static final Supplier<CabinPeace> NEW = CabinPeace::new;
  private static final Supplier<CabinPeace> RICH = RefusedTest::rich;
  private static final Supplier<CabinPeace> FULL = RefusedTest::full;
  private static final int MIN = Integer.MIN_VALUE;
  private static final int MAX = Integer.MAX_VALUE;

  public static void main(String[] args) {
    ready();
    changesAreSeen();
    trays();
    pours();
    people();
    wishes();
    groups();
    told();
    toldInOrder();
    ran();
    all();
    rest();
    whenFull();
    faulty();
    asked();
    T.end();
  }

  /**
   * Three who chase each other, and a fourth without a wish, apart from all; all that can be told has been told: a run with a ring,
   * weeks, one gone, a fault, twenty bytes on the tape. Tray 0 tells a parting, 1 is too short, 2 is none, 3 is missing.
   */
  private static CabinPeace rich() {
    CabinPeace c = Check.chase();
    c.person(4, 3);
    for (int p = 0; p < 3; p++) { c.must(p, 3, false); }
    Check.tell(c, 0, "5512777");
    c.run(0, 4, 50);
    c.weeks(3, 2);
    c.goes(0, 3, 3);
    Check.tell(c, 0, "5512777");
    Check.tell(c, 1, "001");
    c.tray(2, 1, 4);
    Check.wish(c, 1, "add 2*c; add a; add");
    Check.feed(c, "add 7; bar size=3;  ");
    return c;
  }

  /** Eight people, twelve musts, three hundred bytes on the tape. */
  private static CabinPeace full() {
    CabinPeace c = Check.people(8);
    for (int i = 0; i < 12; i++) { c.must(i % 8, (i + 1) % 8, i < 2); }
    for (int i = 0; i < 15; i++) { Check.feed(c, "add 1 if size=2;    "); }
    return c;
  }

  private static void ready() {
    CabinPeace c = rich();
    T.due(21, "a ring", c.ran(0), 1);
    T.due(35, "two weeks", c.week(0) * 10 + c.week(1), 1);
    T.due(37, "a and b, then c", c.gone(0) * 100 + c.gone(1) * 10 + c.gone(2), 1);
    T.due(12, "the end", c.fault(0) * 100 + c.fault(1), 219);
    T.due(10, "twenty bytes", c.feed(0, 0, 0, 0, 0), 40);
    c = full();
    T.none(7, "eight people", c, c.person(9, 0), 4);
    T.none(9, "twelve musts", c, c.must(0, 1, true) ? 1 : -1, 4);
    T.due(10, "three hundred bytes", c.feed(0, 0, 0, 0, 0), -1);
  }

  /** What the twins compare tells of each sort of change. */
  private static void changesAreSeen() {
    String[] calls = {"tray 1 0 4", "tray 3 3 0", "tray 1 1 3", "write 0 6 1", "pour 0 0 1 0 3", "person 5 0", "sizes 1", "must 0 1 0",
        "feed 1 2 3 4 5", "wish 0 0", "wish 0 6", "wish 0 18", "wish 0 17", "step 0 4", "run 0 4 1", "run 0 0 1", "weeks 3 1", "weeks 0 3",
        "goes 0 4 0"};
    for (String call : calls) {
      String[] words = call.split(" ");
      long[] x = new long[words.length - 1];
      for (int i = 0; i < x.length; i++) { x[i] = Long.parseLong(words[i + 1]); }
      boolean seen = false;
      for (int part = 0; part < 4; part++) {
        CabinPeace c = rich();
        Both.on(c, words[0], x);
        seen |= !Twins.seen(c, part).equals(Twins.seen(rich(), part));
      }
      T.due(2, "a change by " + call + " is seen", seen, true);
    }
  }

  private static void no(int promise, int why, String name, long... x) { Twins.refused(T, promise, RICH, why, name, x); }

  private static void trays() {
    for (int tray : new int[] {MIN, -1, 4, MAX}) {
      no(3, 1, "tray", tray, 0, 3);
      no(4, 1, "write", tray, 0, 1);
      no(5, 1, "read", tray, 0);
      Twins.refused(T, 3, NEW, 1, "tray", tray, 0, 3);
      Twins.refused(T, 4, NEW, 1, "write", tray, 0, 1);
    }
    for (int wrong : new int[] {MIN, -1, 4, MAX}) { no(3, 1, "tray", 0, wrong, 3); }
    for (int many : new int[] {MIN, -1, 61, MAX}) { no(3, 1, "tray", 0, 0, many); }
    for (int tray = 0; tray < 4; tray++) {
      Twins.refused(T, 4, NEW, 2, "write", tray, 0, 1);
      Twins.refused(T, 5, NEW, 2, "read", tray, 0);
    }
    no(4, 1, "write", 4, -1, 1);
    no(4, 2, "write", 3, 0, 1);
    no(4, 2, "write", 3, 99, 1);
    no(5, 2, "read", 3, -1);
    for (int place : new int[] {MIN, -1, 7, MAX}) {
      no(4, 3, "write", 0, place, 1);
      no(5, 3, "read", 0, place);
    }
    no(4, 3, "write", 1, 3, 1);
    no(5, 3, "read", 1, 3);
  }

  /** Tray 0 has seven numbers of 8 bits, tray 1 three; tray 2 four of 16; tray 3 is missing. */
  private static void pours() {
    for (int tray : new int[] {MIN, -1, 4, MAX}) {
      no(6, 1, "pour", tray, 0, 0, 0, 1);
      no(6, 1, "pour", 0, 0, tray, 0, 1);
      no(6, 1, "pour", tray, 0, 3, 0, 1);
    }
    for (int low : new int[] {MIN, -1}) {
      no(6, 1, "pour", 0, low, 1, 0, 1);
      no(6, 1, "pour", 0, 0, 1, low, 1);
      no(6, 1, "pour", 0, 0, 1, 0, low);
      no(6, 1, "pour", 3, low, 0, 0, 1);
      no(6, 1, "pour", 0, 0, 3, 0, low);
      no(6, 1, "pour", 0, 0, 2, low, 1);
      no(6, 1, "pour", 0, 99, 1, 0, low);
    }
    no(6, 2, "pour", 3, 0, 0, 0, 1);
    no(6, 2, "pour", 0, 0, 3, 0, 1);
    no(6, 2, "pour", 3, 0, 3, 0, 0);
    no(6, 2, "pour", 3, 99, 2, 99, 99);
    no(6, 2, "pour", 2, 99, 3, 99, 99);
    no(6, 8, "pour", 0, 0, 2, 0, 1);
    no(6, 8, "pour", 2, 0, 1, 0, 0);
    no(6, 8, "pour", 0, 99, 2, 99, 99);
    no(6, 3, "pour", 0, 6, 1, 0, 2);
    no(6, 3, "pour", 0, 7, 1, 0, 1);
    no(6, 3, "pour", 0, 8, 1, 0, 0);
    no(6, 3, "pour", 0, 0, 1, 4, 0);
    no(6, 3, "pour", 0, 0, 1, 0, 4);
    no(6, 3, "pour", 0, 0, 1, 3, 1);
    no(6, 3, "pour", 0, 0, 0, 1, 7);
    no(6, 3, "pour", 0, 1, 0, 0, 7);
    no(6, 3, "pour", 0, 0, 0, 0, 8);
    no(6, 3, "pour", 0, MAX, 0, 0, MAX);
    no(6, 3, "pour", 0, 0, 0, MAX, 1);
    no(6, 3, "pour", 0, 1, 0, 1, MAX);
  }

  private static void people() {
    no(7, 1, "person", 0, 0);
    no(7, 1, "person", -1, 0);
    no(7, 1, "person", Check.name("kin"), 0);
    no(7, 1, "person", 5, -1);
    no(7, 1, "person", 5, 10);
    no(7, 1, "person", 1, 10);
    no(7, 7, "person", 1, 0);
    no(7, 7, "person", 4, 9);
    for (int set : new int[] {MIN, -1, 0, 256, 511, MAX}) {
      no(8, 1, "sizes", set);
      Twins.refused(T, 8, NEW, 1, "sizes", set);
    }
    for (int wrong : new int[] {MIN, -1, 4, MAX}) {
      for (int with = 0; with < 2; with++) {
        no(9, 1, "must", wrong, 1, with);
        no(9, 1, "must", 1, wrong, with);
      }
    }
    for (int p = 0; p < 4; p++) { no(9, 1, "must", p, p, p & 1); }
    Twins.refused(T, 9, NEW, 1, "must", 0, 1, 1);
  }

  private static void wishes() {
    for (int wrong : new int[] {MIN, -1, 4, MAX}) { no(11, 1, "wish", wrong, 6); }
    for (int n : new int[] {MIN, -1, 21, 300, MAX}) { no(11, 1, "wish", 0, n); }
    Twins.refused(T, 11, NEW, 1, "wish", 0, 0);
    Twins.refused(T, 11, () -> Check.people(1), 1, "wish", 0, 1);
  }

  private static void groups() {
    for (int wrong : new int[] {MIN, -1, 4, MAX}) {
      no(13, 1, "worth", wrong, 15);
      no(14, 1, "bars", wrong, 15);
      no(15, 1, "rather", wrong, 15, 15);
    }
    for (int group : new int[] {MIN, MIN + 1, -1, 0, 2, 14, 16, 17, 256, 257, MAX}) {
      no(13, 1, "worth", 0, group);
      no(14, 1, "bars", 0, group);
      no(15, 1, "rather", 0, group, 1);
      no(15, 1, "rather", 0, 1, group);
    }
    for (int group : new int[] {MIN, MIN + 1, -1, 0, 16, 17, 256, 257, MAX}) { no(16, 1, "lawful", group); }
    Twins.refused(T, 16, NEW, 1, "lawful", 1);
    Twins.refused(T, 13, NEW, 1, "worth", 0, 1);
  }

  private static void told() {
    for (int kind : new int[] {MIN, -1, 6, MAX}) {
      no(17, 1, "breaks", 0, kind);
      no(18, 1, "first", 0, kind, 0);
      no(19, 1, "step", 0, kind);
      no(20, 1, "run", 0, kind, 9);
      no(36, 1, "goes", 0, kind, 0);
    }
    for (int tray : new int[] {MIN, -1, 4, MAX}) {
      no(17, 1, "breaks", tray, 4);
      no(18, 1, "first", tray, 4, 0);
      no(19, 1, "step", tray, 4);
      no(20, 1, "run", tray, 4, 9);
      no(36, 1, "goes", tray, 4, 0);
    }
    for (int what : new int[] {MIN, -1, 2, MAX}) { no(18, 1, "first", 0, 4, what); }
    for (int most : new int[] {MIN, -1, 0, 201, MAX}) { no(20, 1, "run", 0, 4, most); }
    for (int wrong : new int[] {MIN, -1, 4, MAX}) { no(36, 1, "goes", 0, 4, wrong); }
  }

  /** Tray 3 is missing, 1 too short, 2 tells no parting (a and d are apart). */
  private static void toldInOrder() {
    no(17, 1, "breaks", 3, 6);
    no(18, 1, "first", 3, 4, 2);
    no(19, 1, "step", 3, 6);
    no(20, 1, "run", 3, 4, 0);
    no(36, 1, "goes", 3, 4, 4);
    no(17, 1, "breaks", 1, 6);
    no(18, 1, "first", 1, 4, 2);
    no(20, 1, "run", 1, 4, 201);
    no(36, 1, "goes", 1, 4, -1);
    int[] trays = {3, 1, 2};
    int[] why = {2, 3, 1};
    for (int i = 0; i < 3; i++) {
      no(17, why[i], "breaks", trays[i], 4);
      no(18, why[i], "first", trays[i], 4, 1);
      no(19, why[i], "step", trays[i], 4);
      no(20, why[i], "run", trays[i], 4, 200);
      no(36, why[i], "goes", trays[i], 4, 0);
    }
    no(18, 6, "first", 0, 5, 0);
    no(18, 6, "first", 0, 5, 1);
    no(19, 6, "step", 0, 5);
    // Who stays is alone, which is not lawful.
    Twins.refused(T, 36, () -> { CabinPeace c = Check.people(2); c.sizes(2); c.tray(0, 0, 2); return c; }, 6, "goes", 0, 0, 1);
  }

  private static void ran() {
    for (int what : new int[] {MIN, -1, 3, MAX}) {
      no(21, 1, "ran", what);
      Twins.refused(T, 21, NEW, 1, "ran", what);
    }
    for (int what = 0; what < 3; what++) { Twins.refused(T, 21, NEW, 6, "ran", what); }
  }

  /** There is no peace of the kinds 1, 2 and 4, and there is of 0, 3 and 5. */
  private static void all() {
    no(22, 1, "count", -2);
    no(22, 1, "count", 6);
    for (int kind : new int[] {MIN, -1, 6, MAX}) {
      no(23, 1, "room", kind, 0, 0);
      no(24, 1, "sum", kind, 1);
      no(25, 1, "together", kind, 0, 1);
      no(26, 1, "knot", kind);
      no(27, 1, "near", kind);
      no(28, 1, "nearRoom", kind, 0);
      no(29, 1, "bear", kind);
      no(30, 1, "mend", kind, 0);
    }
    for (int wrong : new int[] {MIN, -1, 4, MAX}) {
      no(23, 1, "room", 4, 0, wrong);
      no(25, 1, "together", 3, wrong, 1);
      no(25, 1, "together", 3, 1, wrong);
      no(28, 1, "nearRoom", 4, wrong);
      no(32, 1, "greedy", wrong);
    }
    for (int p = 0; p < 4; p++) { no(25, 1, "together", 3, p, p); }
    for (int what : new int[] {MIN, -1, 3, MAX}) { no(23, 1, "room", 4, what, 0); }
    for (int what : new int[] {MIN, -1, 0, 3, MAX}) { no(24, 1, "sum", 4, what); }
    for (int what : new int[] {MIN, -1, 7, MAX}) {
      no(30, 1, "mend", 4, what);
      no(30, 1, "mend", 3, what);
    }
    for (int sort : new int[] {MIN, -1, 2, MAX}) { no(31, 1, "sort", sort); }
    for (int kind : new int[] {1, 2, 4}) {
      for (int what = 0; what < 3; what++) { no(23, 6, "room", kind, what, 0); }
      no(24, 6, "sum", kind, 1);
      no(24, 6, "sum", kind, 2);
    }
    for (int kind : new int[] {0, 3, 5}) {
      no(26, 6, "knot", kind);
      for (int what = 0; what < 7; what++) { no(30, 6, "mend", kind, what); }
    }
    no(32, 6, "greedy", 0);
  }

  private static void rest() {
    for (int kind : new int[] {MIN, -1, 6, MAX}) {
      no(33, 1, "gain", kind, 0, 0);
      no(34, 1, "weeks", kind, 1);
    }
    for (int wrong : new int[] {MIN, -1, 4, MAX}) {
      no(33, 1, "gain", 3, wrong, 0);
      no(37, 1, "gone", wrong);
    }
    for (int saying : new int[] {MIN, -1, 2, MAX}) {
      no(33, 1, "gain", 3, 0, saying);
      no(33, 1, "gain", 4, 0, saying);
    }
    no(33, 1, "gain", 3, 3, 0);
    no(33, 6, "gain", 4, 0, 0);
    for (int many : new int[] {MIN, -1, 0, 6, MAX}) {
      no(34, 1, "weeks", 3, many);
      no(34, 1, "weeks", 4, many);
    }
    no(34, 6, "weeks", 4, 1);
    for (int k : new int[] {MIN, -1}) { no(35, 1, "week", k); }
    for (int k : new int[] {2, 5, MAX}) { no(35, 6, "week", k); }
    no(37, 6, "gone", 3);
    Twins.refused(T, 35, NEW, 6, "week", 0);
    Twins.refused(T, 35, NEW, 1, "week", -1);
    Twins.refused(T, 37, NEW, 1, "gone", 0);
    Twins.refused(T, 37, () -> Check.people(1), 6, "gone", 0);
  }

  private static void whenFull() {
    Twins.refused(T, 7, FULL, 4, "person", 9, 0);
    Twins.refused(T, 7, FULL, 4, "person", 8, 0);
    Twins.refused(T, 7, FULL, 1, "person", 27, 0);
    Twins.refused(T, 7, FULL, 1, "person", 9, 10);
    Twins.refused(T, 9, FULL, 4, "must", 0, 1, 1);
    Twins.refused(T, 9, FULL, 4, "must", 6, 7, 0);
    Twins.refused(T, 9, FULL, 1, "must", 7, 7, 0);
    Twins.refused(T, 9, FULL, 1, "must", 7, 8, 0);
    Twins.refused(T, 11, FULL, 1, "wish", 0, 301);
    Twins.refused(T, 11, FULL, 1, "wish", 8, 300);
    // a and b are together and apart: there are no partings, and neither word nor size helps.
    for (int kind = 0; kind < 6; kind++) {
      Twins.refused(T, 27, FULL, 6, "near", kind);
      Twins.refused(T, 28, FULL, 6, "nearRoom", kind, 7);
      Twins.refused(T, 29, FULL, 6, "bear", kind);
      for (int what : new int[] {1, 2, 4}) { Twins.refused(T, 30, FULL, 6, "mend", kind, what); }
      Twins.refused(T, 34, FULL, 6, "weeks", kind, 1);
    }
    Twins.refused(T, 32, FULL, 6, "greedy", 7);
    // feed() has no STATUS, and is refused all the same.
    for (int part = 0; part < 4; part++) {
      CabinPeace c = full();
      c.read(0, 0);
      T.due(10, "feed() to a full tape", c.feed(1, 2, 3, 4, 5), -1);
      T.due(10, "STATUS stays", c.status(), 2);
      T.due(10, "nothing changed", Twins.seen(c, part).equals(Twins.seen(full(), part)), true);
    }
  }

  private static void faulty() {
    for (int n : new int[] {3, 5, 11}) { Twins.faulty(T, RICH, 0, n, 3); }
    Twins.faulty(T, RICH, 3, 17, 3);
  }

  /** Those that only ask leave all as it is: a word left out, a size more, a person gone are tried, and taken back. */
  private static void asked() {
    Twins.asked(T, 17, RICH, 1, "breaks", 0, 4);
    Twins.asked(T, 18, RICH, 6, "first", 0, 4, 0);
    Twins.asked(T, 26, RICH, 7, "knot", 4);
    Twins.asked(T, 27, RICH, 1, "near", 4);
    Twins.asked(T, 28, RICH, 0, "nearRoom", 4, 1);
    Twins.asked(T, 29, RICH, 1, "bear", 4);
    Twins.asked(T, 30, RICH, 6, "mend", 4, 0);
    Twins.asked(T, 30, RICH, 1, "mend", 4, 3);
    Twins.asked(T, 30, RICH, 3, "mend", 4, 5);
    Twins.asked(T, 31, RICH, 0, "sort", 0);
    Twins.asked(T, 31, RICH, 0, "sort", 1);
    Twins.asked(T, 33, RICH, -1, "gain", 3, 0, 0);
    Twins.asked(T, 22, RICH, 3, "count", 3);
  }
}
