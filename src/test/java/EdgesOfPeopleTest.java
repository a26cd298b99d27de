/** Part 1 of the terms, up to WISHES: at each limit, just below it and just beyond it. */
public final class EdgesOfPeopleTest {
  private static final Check T = new Check("EdgesOfPeopleTest");

  public static void main(String[] args) {
    howManyInTray();
    everyTray();
    cutToSort();
    trayAnew();
    pourAtTheEnds();
    pourKeepsSorts();
    lettersOfNames();
    keyWords();
    kins();
    howManyPeople();
    sizesOneByOne();
    sizesAsSets();
    groupsAtTheEnds();
    howManyMusts();
    mustsBesideOthers();
    mustsOfThoseWhoComeLater();
    T.end();
  }

  private static void howManyInTray() {
    for (int many = -2; many <= 63; many++) {
      CabinPeace c = new CabinPeace();
      boolean can = many >= 0 && many <= 60;
      T.due(3, "tray(0, 0, " + many + ")", c.tray(0, 0, many), can);
      T.due(3, "its status", c.status(), can ? 0 : 1);
      T.none(5, "just beyond the last of " + many, c, c.read(0, Math.max(0, many)), can ? 3 : 2);
      if (can && many > 0) { T.fine(5, "the last of " + many, c, c.read(0, many - 1), 0); }
      if (can) { T.none(5, "just ahead of the first", c, c.read(0, -1), 3); }
    }
  }

  /** Trays stand side by side: what comes to one is not seen in another. */
  private static void everyTray() {
    CabinPeace c = new CabinPeace();
    for (int tray = 0; tray < 4; tray++) {
      T.yes(3, "tray " + tray, c, c.tray(tray, tray, 60));
      for (int place = 0; place < 60; place++) { c.write(tray, place, tray * 20 + place); }
    }
    for (int tray = 0; tray < 4; tray++) {
      for (int place = 0; place < 60; place++) { T.due(5, "place " + place, c.read(tray, place), tray * 20 + place); }
    }
    T.due(5, "status()", c.status(), 0);
  }

  private static void cut(int sort, long v, long want) {
    CabinPeace c = new CabinPeace();
    c.tray(1, sort, 3);
    T.yes(4, "write " + v, c, c.write(1, 1, v));
    T.fine(4, v + " in sort " + sort, c, c.read(1, 1), want);
    T.fine(4, "the one ahead", c, c.read(1, 0), 0);
    T.fine(4, "the one behind", c, c.read(1, 2), 0);
  }

  private static void cutToSort() {
    for (int sort = 0; sort < 3; sort++) {
      long half = 1L << (8 << sort) - 1;
      cut(sort, half - 1, half - 1);
      cut(sort, half, -half);
      cut(sort, half + 1, 1 - half);
      cut(sort, 2 * half - 1, -1);
      cut(sort, 2 * half, 0);
      cut(sort, 2 * half + 1, 1);
      cut(sort, -half, -half);
      cut(sort, -half - 1, half - 1);
      cut(sort, -2 * half, 0);
      cut(sort, -2 * half - 1, -1);
      cut(sort, Long.MAX_VALUE, -1);
      cut(sort, Long.MIN_VALUE, 0);
      cut(sort, -1, -1);
      cut(sort, 0, 0);
    }
    for (long v : new long[] {Long.MAX_VALUE, Long.MIN_VALUE, -1, 0, 1L << 32, -(1L << 32), 1L << 62}) { cut(3, v, v); }
  }

  /** A tray that is there already is made anew: so many 0s, of the new sort, no more places than that. */
  private static void trayAnew() {
    CabinPeace c = new CabinPeace();
    c.tray(0, 3, 5);
    for (int i = 0; i < 5; i++) { c.write(0, i, 1L << 40 | i); }
    T.yes(3, "shorter", c, c.tray(0, 3, 2));
    T.none(3, "the third is gone", c, c.read(0, 2), 3);
    T.fine(3, "0 again", c, c.read(0, 1), 0);
    T.yes(3, "longer", c, c.tray(0, 0, 5));
    for (int i = 0; i < 5; i++) { T.fine(3, "0 again", c, c.read(0, i), 0); }
    c.write(0, 4, 300);
    T.fine(3, "of the new sort", c, c.read(0, 4), 44);
    T.yes(3, "empty", c, c.tray(0, 0, 0));
    T.none(3, "it is there, but has no place", c, c.read(0, 0), 3);
    T.no(3, "it is there, but has no place", c, c.write(0, 0, 1), 3);
  }

  private static CabinPeace rows() {
    CabinPeace c = new CabinPeace();
    c.tray(0, 1, 5);
    c.tray(1, 1, 4);
    for (int i = 0; i < 5; i++) { c.write(0, i, i + 1); }
    for (int i = 0; i < 4; i++) { c.write(1, i, i + 6); }
    return c;
  }

  private static void poured(int from, int place, int to, int at, int many, long first, long second) {
    CabinPeace c = rows();
    String what = Twins.told("pour", from, place, to, at, many);
    T.yes(6, what, c, c.pour(from, place, to, at, many));
    T.due(6, what + ": tray 0", Check.told(c, 0, 5), first);
    T.due(6, what + ": tray 1", Check.told(c, 1, 4), second);
  }

  private static void pourAtTheEnds() {
    poured(0, 0, 1, 0, 4, 112345, 11234);
    poured(0, 1, 1, 0, 4, 112345, 12345);
    poured(1, 0, 0, 1, 4, 116789, 16789);
    poured(0, 4, 1, 3, 1, 112345, 16785);
    poured(0, 0, 1, 3, 1, 112345, 16781);
    poured(0, 4, 1, 0, 1, 112345, 15789);
    poured(0, 0, 1, 0, 0, 112345, 16789);
    poured(0, 5, 1, 4, 0, 112345, 16789);
    poured(0, 0, 0, 0, 5, 112345, 16789);
    poured(0, 0, 0, 1, 4, 111234, 16789);
    poured(0, 1, 0, 0, 4, 123455, 16789);
    poured(0, 0, 0, 4, 1, 112341, 16789);
    poured(0, 2, 0, 3, 2, 112334, 16789);
    CabinPeace c = new CabinPeace();
    c.tray(0, 0, 0);
    c.tray(1, 0, 60);
    c.tray(2, 0, 60);
    T.yes(6, "none of none", c, c.pour(0, 0, 0, 0, 0));
    T.no(6, "one of none", c, c.pour(0, 0, 1, 0, 1), 3);
    T.no(6, "one to none", c, c.pour(1, 0, 0, 0, 1), 3);
    c.write(1, 0, 7);
    c.write(1, 59, 9);
    T.yes(6, "all sixty", c, c.pour(1, 0, 2, 0, 60));
    T.fine(6, "the first", c, c.read(2, 0), 7);
    T.fine(6, "the last", c, c.read(2, 59), 9);
    T.no(6, "sixty-one", c, c.pour(1, 0, 2, 0, 61), 3);
  }

  /** Like sorts are asked for, like lengths are not; numbers come as they were, to the last bit. */
  private static void pourKeepsSorts() {
    long[] wide = {-1, Byte.MIN_VALUE, Short.MIN_VALUE, Integer.MIN_VALUE, Long.MIN_VALUE};
    for (int a = 0; a < 4; a++) {
      for (int b = 0; b < 4; b++) {
        CabinPeace c = new CabinPeace();
        c.tray(2, a, 3);
        c.tray(3, b, 2);
        c.write(2, 2, wide[a + 1]);
        T.due(6, "sort " + a + " to sort " + b, c.pour(2, 2, 3, 1, 1), a == b);
        T.due(6, "its status", c.status(), a == b ? 0 : 8);
        T.fine(6, "what came", c, c.read(3, 1), a == b ? wide[a + 1] : 0);
        T.due(6, "none of sort " + a + " to sort " + b, c.pour(2, 0, 3, 0, 0), a == b);
        T.due(6, "its status", c.status(), a == b ? 0 : 8);
      }
    }
  }

  private static void name(long name, boolean can) {
    CabinPeace c = new CabinPeace();
    T.due(7, "person(" + name + ", 0)", c.person(name, 0), can ? 0 : -1);
    T.due(7, "status() of person(" + name + ", 0)", c.status(), can ? 0 : 1);
  }

  private static void lettersOfNames() {
    // One letter at each of eight places is each number of five bits; letters are 1 to 26.
    for (int letters = 1; letters <= 8; letters++) {
      long word = 0;
      for (int i = 0; i < letters; i++) { word = word << 5 | 5; }
      name(word, true);
      for (int at = 0; at < letters; at++) {
        for (int letter : new int[] {0, 1, 2, 25, 26, 27, 28, 31}) {
          boolean shorter = letter == 0 && at == letters - 1 && letters > 1;
          name(word & ~(31L << 5 * at) | (long) letter << 5 * at, letter >= 1 && letter <= 26 || shorter);
        }
      }
    }
    name(Check.name("aaaaaaaa"), true);
    name(Check.name("zzzzzzzz"), true);
    name(Check.name("zzzzzzzz") + 1, false);
    name(Check.name("aaaaaaaa") | 1L << 40, false);
    name(Check.name("aaaaaaaa") | 1L << 45, false);
    name(Check.name("aaaaaaaa") | 1L << 63, false);
    name(1L << 40, false);
    name((1L << 40) - 1, false);
    name(-1, false);
    name(-Check.name("b"), false);
    name(Long.MAX_VALUE, false);
    name(Long.MIN_VALUE, false);
  }

  private static void keyWords() {
    for (String key : new String[] {"add", "bar", "if", "or", "and", "not", "size", "kin"}) {
      name(Check.name(key), false);
      name(Check.name(key) + 1, true);
      name(Check.name(key) - 1, true);
      name(Check.name(key + "s"), true);
      name(Check.name("s" + key), true);
      name(Check.name(key.substring(1)), true);
    }
  }

  private static void kins() {
    for (int kin = -2; kin <= 12; kin++) {
      CabinPeace c = new CabinPeace();
      boolean can = kin >= 0 && kin <= 9;
      T.due(7, "kin " + kin, c.person(1, kin), can ? 0 : -1);
      T.due(7, "its status", c.status(), can ? 0 : 1);
      T.due(7, "the next one", c.person(2, Math.max(0, Math.min(9, kin))), can ? 1 : 0);
      if (can) {
        Check.wish(c, 0, "add kin;");
        T.fine(13, "two of kin " + kin, c, c.worth(0, 3), kin == 0 ? 0 : 1);
      }
    }
    // Those of unlike kins are no kin, those of none are none to each other.
    CabinPeace c = new CabinPeace();
    int[] kins = {1, 2, 9, 8, 0, 0, 1, 9};
    for (int p = 0; p < 8; p++) { c.person(p + 1, kins[p]); }
    int[] others = {1, 0, 1, 0, 0, 0, 1, 1};
    for (int p = 0; p < 8; p++) {
      Check.wish(c, p, "add kin;");
      T.fine(13, "kin of " + p + " among all", c, c.worth(p, 255), others[p]);
      T.fine(13, "kin of " + p + " alone", c, c.worth(p, 1 << p), 0);
    }
  }

  private static void howManyPeople() {
    CabinPeace c = new CabinPeace();
    for (int p = 0; p < 8; p++) {
      T.none(13, "person " + p + " is not there yet", c, c.worth(p, 1 << p), 1);
      T.none(16, "nor its group", c, c.lawful(1 << p), 1);
      T.fine(7, "person " + p, c, c.person(p + 1, 0), p);
      T.fine(13, "it is there", c, c.worth(p, 1 << p), 0);
      T.fine(16, "and its group", c, c.lawful((2 << p) - 1), 1);
    }
    T.none(7, "a ninth", c, c.person(9, 0), 4);
    T.none(7, "a ninth, once more", c, c.person(10, 9), 4);
    T.none(13, "it is not there", c, c.worth(8, 256), 1);
    T.none(16, "nor its group", c, c.lawful(256), 1);
    T.fine(22, "eight there are", c, c.count(-1), 4140);
  }

  private static void sizesOneByOne() {
    int[] first = {1, 3, 7, 15, 31, 63, 127, 255};
    for (int size = 1; size <= 8; size++) {
      CabinPeace c = Check.people(8);
      T.yes(8, "of " + size, c, c.sizes(1 << size - 1));
      for (int other = 1; other <= 8; other++) {
        T.fine(16, "a group of " + other + ", lawful is " + size, c, c.lawful(first[other - 1]), other == size ? 1 : 0);
      }
      c.sizes(255 ^ 1 << size - 1);
      for (int other = 1; other <= 8; other++) {
        T.fine(16, "a group of " + other + ", all but " + size, c, c.lawful(first[other - 1]), other == size ? 0 : 1);
      }
    }
  }

  private static void sizesAsSets() {
    CabinPeace c = Check.people(2);
    T.no(8, "sizes(0)", c, c.sizes(0), 1);
    T.yes(8, "sizes(1)", c, c.sizes(1));
    T.fine(8, "one alone", c, c.count(-1), 1);
    T.yes(8, "sizes(2)", c, c.sizes(2));
    T.fine(8, "two", c, c.count(-1), 1);
    // Sizes that nobody can have are sets as well.
    T.yes(8, "sizes(254)", c, c.sizes(254));
    T.fine(8, "two", c, c.count(-1), 1);
    T.yes(8, "sizes(128)", c, c.sizes(128));
    T.fine(8, "eight of two", c, c.count(-1), 0);
    T.yes(8, "sizes(255)", c, c.sizes(255));
    T.fine(8, "both", c, c.count(-1), 2);
    T.no(8, "sizes(256)", c, c.sizes(256), 1);
    T.no(8, "sizes(257)", c, c.sizes(257), 1);
    T.fine(8, "both still", c, c.count(-1), 2);
    c = new CabinPeace();
    T.yes(8, "ahead of any people", c, c.sizes(2));
    c.person(1, 0);
    T.fine(16, "it holds for who comes", c, c.lawful(1), 0);
    c.person(2, 0);
    T.fine(16, "it holds for who comes", c, c.lawful(3), 1);
  }

  private static void groupsAtTheEnds() {
    for (int n = 0; n <= 8; n++) {
      CabinPeace c = Check.people(n);
      T.none(16, "the empty group", c, c.lawful(0), 1);
      if (n > 0) { T.fine(16, "all " + n, c, c.lawful((1 << n) - 1), 1); }
      T.none(16, "one more than all " + n, c, c.lawful(1 << n), 1);
      T.none(16, "one more than all " + n, c, c.lawful((2 << n) - 1), 1);
      for (int p = 0; p < n; p++) {
        T.fine(13, "the last group", c, c.worth(p, (1 << n) - 1), 0);
        T.none(13, "other bits", c, c.worth(p, 1 << n | 1 << p), 1);
        T.none(14, "other bits", c, c.bars(p, 1 << n | 1 << p), 1);
        T.none(15, "other bits", c, c.rather(p, 1 << n | 1 << p, 1 << p), 1);
        T.none(15, "other bits", c, c.rather(p, 1 << p, 1 << n | 1 << p), 1);
        T.none(13, "all but itself", c, c.worth(p, (1 << n) - 1 & ~(1 << p)), 1);
        T.none(14, "all but itself", c, c.bars(p, (1 << n) - 1 & ~(1 << p)), 1);
        T.none(15, "all but itself", c, c.rather(p, (1 << n) - 1, (1 << n) - 1 & ~(1 << p)), 1);
        T.none(15, "all but itself", c, c.rather(p, (1 << n) - 1 & ~(1 << p), (1 << n) - 1), 1);
      }
    }
  }

  private static void howManyMusts() {
    CabinPeace c = Check.people(8);
    for (int i = 0; i < 11; i++) { T.yes(9, "must " + i, c, c.must(i % 7, 7, false)); }
    T.fine(16, "a and b", c, c.lawful(3), 1);
    T.yes(9, "the twelfth", c, c.must(0, 1, false));
    T.fine(16, "it holds", c, c.lawful(3), 0);
    T.no(9, "a thirteenth", c, c.must(2, 3, false), 4);
    T.fine(16, "it does not hold", c, c.lawful(12), 1);
    T.no(9, "one that is there counts too", c, c.must(0, 1, false), 4);
    T.no(9, "a thirteenth of the other sort", c, c.must(2, 3, true), 4);
    T.fine(16, "it does not hold", c, c.lawful(4), 1);
    T.no(9, "1 ahead of 4", c, c.must(3, 3, false), 1);
    T.no(9, "1 ahead of 4", c, c.must(8, 3, false), 1);
    T.no(9, "1 ahead of 4", c, c.must(3, -1, false), 1);
  }

  private static void mustsBesideOthers() {
    CabinPeace c = Check.people(4);
    c.must(0, 1, true);
    c.must(1, 2, true);
    T.fine(16, "a and b without c", c, c.lawful(3), 0);
    T.fine(16, "a, b, c", c, c.lawful(7), 1);
    T.fine(16, "neither of them", c, c.lawful(8), 1);
    c.must(0, 2, false);
    T.fine(16, "a, b, c", c, c.lawful(7), 0);
    T.fine(16, "a alone", c, c.lawful(1), 0);
    T.fine(16, "neither of them, still", c, c.lawful(8), 1);
    for (int a = 0; a < 8; a++) {
      for (int b = 0; b < 8; b++) {
        if (a != b) { mustOfTwo(a, b); }
      }
    }
    c = Check.people(2);
    c.must(1, 0, true);
    c.must(0, 1, false);
    for (int g = 1; g < 4; g++) { T.fine(16, "together and apart: no group", c, c.lawful(g), 0); }
    c = Check.people(2);
    c.must(1, 0, false);
    T.fine(16, "apart, told the other way round", c, c.lawful(3), 0);
    T.fine(16, "one of them", c, c.lawful(1), 1);
    T.fine(16, "the other one", c, c.lawful(2), 1);
    c = Check.people(2);
    c.must(1, 0, true);
    T.fine(16, "together, told the other way round", c, c.lawful(1), 0);
    T.fine(16, "the other one", c, c.lawful(2), 0);
    T.fine(16, "both", c, c.lawful(3), 1);
  }

  private static void mustOfTwo(int a, int b) {
    CabinPeace with = Check.people(8);
    CabinPeace without = Check.people(8);
    T.yes(9, "together", with, with.must(a, b, true));
    T.yes(9, "apart", without, without.must(a, b, false));
    int both = 1 << a | 1 << b;
    for (int group : new int[] {1 << a, 1 << b, both, 255, 255 ^ both, 255 ^ 1 << a, 255 ^ 1 << b}) {
      int inside = Integer.bitCount(group & both);
      T.fine(16, "together " + a + " " + b + ": " + group, with, with.lawful(group), inside == 1 ? 0 : 1);
      T.fine(16, "apart " + a + " " + b + ": " + group, without, without.lawful(group), inside == 2 ? 0 : 1);
    }
  }

  private static void mustsOfThoseWhoComeLater() {
    CabinPeace c = new CabinPeace();
    T.no(9, "nobody is there", c, c.must(0, 1, true), 1);
    c.person(1, 0);
    T.no(9, "one is there", c, c.must(0, 1, true), 1);
    T.no(9, "one is there", c, c.must(1, 0, true), 1);
    c.person(2, 0);
    T.yes(9, "both are there", c, c.must(0, 1, true));
    c.person(3, 0);
    T.fine(16, "one more among them", c, c.lawful(7), 1);
    T.fine(16, "one more with one of them", c, c.lawful(5), 0);
    T.fine(16, "one more alone", c, c.lawful(4), 1);
  }
}
