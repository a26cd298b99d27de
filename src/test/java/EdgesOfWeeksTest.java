/** Part 4 of the terms: GAIN, WEEKS, GOES, at their limits. */
public final class EdgesOfWeeksTest {
  private static final Check T = new Check("EdgesOfWeeksTest");

  public static void main(String[] args) {
    sayingsOfGain();
    gainByBetter();
    gainAtTheEnds();
    gainNone();
    howManyWeeks();
    weeksInTwos();
    firstRow();
    weeksWithKin();
    latestWeeks();
    weeksOfNone();
    everyoneGoes();
    whoIsMoved();
    fewestMoved();
    firstOfSeveral();
    goesWithoutMusts();
    whoGoesBreaksNothing();
    whoGoesSwapsNot();
    goesNone();
    latestGone();
    T.end();
  }

  private static void sayingsOfGain() {
    CabinPeace c = Check.people(8);
    T.none(33, "no wish, no saying", c, c.gain(4, 0, 0), 1);
    Check.wish(c, 7, "add 1;".repeat(12));
    T.fine(33, "the first", c, c.gain(4, 7, 0), 0);
    T.fine(33, "the twelfth", c, c.gain(4, 7, 11), 0);
    T.none(33, "a thirteenth", c, c.gain(4, 7, 12), 1);
    T.none(33, "below 0", c, c.gain(4, 7, -1), 1);
    T.none(33, "of another one", c, c.gain(4, 6, 0), 1);
    T.none(33, "no such person", c, c.gain(4, 8, 0), 1);
    Check.wish(c, 7, "add 1;");
    T.none(33, "there is one alone now", c, c.gain(4, 7, 1), 1);
    c.wish(7, 0);
    T.none(33, "there is none now", c, c.gain(4, 7, 0), 1);
  }

  /** a and d like c and b best, b and c like a and d best: two partings with peace, the first the worse one for a. */
  private static CabinPeace twoWays(String ofA) {
    CabinPeace c = Check.people(4);
    c.sizes(3);
    Check.wish(c, 0, ofA);
    Check.wish(c, 3, "add 9*b; add 5*c;");
    Check.wish(c, 1, "add 9*a; add 5*d;");
    Check.wish(c, 2, "add 9*d; add 5*a;");
    return c;
  }

  private static void gainByBetter() {
    CabinPeace c = twoWays("add 1 if size=1; add 5*b; add 9*c;");
    T.fine(22, "two ways", c, c.count(4), 2);
    T.fine(23, "the first: a with b", c, c.room(4, 0, 1), 0);
    T.fine(33, "without its word for b it has c", c, c.gain(4, 0, 1), 4);
    T.fine(33, "without its word for c it has b still", c, c.gain(4, 0, 2), 0);
    T.fine(33, "without its word for alone it has b still", c, c.gain(4, 0, 0), 0);
    T.fine(15, "all is as it was", c, c.rather(0, 3, 1), 1);
    T.fine(22, "all is as it was", c, c.count(4), 2);
    c = twoWays("add 1 if size=1; add 5*b; add 6*c;");
    T.fine(33, "one more", c, c.gain(4, 0, 1), 1);
    // Left out, {ab} is worth 0 and no less than alone.
    c = twoWays("add 5*b; add 9*c;");
    T.fine(33, "it stays with b", c, c.gain(4, 0, 0), 0);
  }

  private static void gainAtTheEnds() {
    CabinPeace c = twoWays("bar size=1; add 0-1000*1000*b; add 1000*1000*c;");
    T.fine(22, "two ways", c, c.count(4), 2);
    T.fine(33, "from the least to the greatest worth", c, c.gain(4, 0, 0), 2000000);
    c = twoWays("bar size=1; add 0-9999*9999*b; add 9999*9999*c;");
    T.fine(33, "worths are cut", c, c.gain(4, 0, 0), 2000000);
    c = Check.people(2);
    Check.wish(c, 0, "add 1000*1000; bar b=1;");
    T.fine(33, "from the greatest to a barred one", c, c.gain(4, 0, 1), -2000000);
    Check.wish(c, 0, "add 9999*9999; bar b=1;");
    T.fine(33, "worths are cut", c, c.gain(4, 0, 1), -2000000);
    Check.wish(c, 0, "add 1000*1000; bar b=1; bar size=2;");
    T.fine(33, "another bar bars it still", c, c.gain(4, 0, 1), 0);
    Check.wish(c, 0, "add 0-1000*1000; bar b=1;");
    T.fine(33, "a barred one counts as the least", c, c.gain(4, 0, 1), 0);
    Check.wish(c, 0, "add 1000*1000*b; add 1000*1000*b; add 5 if size=1;");
    T.fine(33, "what is left is cut, not what was: with b still", c, c.gain(4, 0, 0), 0);
    Check.wish(c, 0, "add 0-1000*1000*b; add 0-1000*1000*b; add 1000*1000*b; add 1000*1000*b; add 0-5 if size=1;");
    T.fine(33, "0 with b; without a word -1,000,000: alone for -5", c, c.gain(4, 0, 2), -5);
    T.fine(33, "0 with b; without a word 1,000,000", c, c.gain(4, 0, 0), 0);
    Check.wish(c, 0, "add 1 if size=1; add 0;");
    T.fine(33, "a -1 that is no NONE", c, c.gain(4, 0, 0), -1);
    T.fine(33, "a 0", c, c.gain(4, 0, 1), 0);
  }

  private static void gainNone() {
    // Neither way; with all only; without it only.
    CabinPeace c = Check.chase();
    T.none(33, "none with all, one without", c, c.gain(4, 0, 0), 6);
    Check.wish(c, 0, "add 0; add 2*b; add c;");
    T.none(33, "none with all, none without", c, c.gain(4, 0, 0), 6);
    Check.wish(c, 0, "add 2*b; add c; add 0-5*c;");
    T.fine(22, "one with all", c, c.count(4), 1);
    T.none(33, "one with all, none without", c, c.gain(4, 0, 2), 6);
    T.fine(33, "one with all, one without", c, c.gain(4, 0, 1), 0);
    T.none(33, "1 ahead of 6", c, c.gain(4, 0, 3), 1);
    c.sizes(8);
    T.none(33, "no partings", c, c.gain(4, 0, 0), 6);
  }

  private static void howManyWeeks() {
    CabinPeace c = Check.people(2);
    for (int many = -1; many <= 7; many++) {
      boolean can = many >= 1 && many <= 5;
      T.due(34, many + " weeks", c.weeks(0, many), can ? 2 : -1);
      T.due(34, "their status", c.status(), can ? 0 : 1);
      int latest = Math.max(0, Math.min(5, many));
      for (int k = 0; k <= 6; k++) {
        T.due(35, "week " + k + " of " + many, c.week(k), k >= latest ? -1 : k == 0 ? 0 : 1);
        T.due(35, "its status", c.status(), k >= latest ? 6 : 0);
      }
      T.none(35, "ahead of the first", c, c.week(-1), 1);
    }
  }

  /** Of 2n people in twos there are 2n - 1 weeks, and no more. */
  private static void weeksInTwos() {
    int[] partings = {1, 3, 15, 105};
    for (int n = 1; n <= 4; n++) {
      CabinPeace c = Check.people(2 * n);
      c.sizes(2);
      for (int many = 1; many <= 5; many++) {
        boolean can = many <= 2 * n - 1;
        T.due(34, many + " weeks of " + 2 * n, c.weeks(5, many), can ? partings[n - 1] : -1);
        T.due(34, "their status", c.status(), can ? 0 : 6);
      }
    }
    CabinPeace c = Check.people(4);
    c.sizes(2);
    c.weeks(5, 3);
    T.fine(35, "one after the other", c, c.week(0) * 100 + c.week(1) * 10 + c.week(2), 12);
    c = Check.people(6);
    c.sizes(4);
    T.fine(34, "threes of six", c, c.weeks(5, 1), 10);
    T.none(34, "two of three are together again", c, c.weeks(5, 2), 6);
  }

  /** The first row is not always made of the first that fits: all of four together can stand alone. */
  private static void firstRow() {
    CabinPeace c = Check.people(4);
    c.sizes(2 | 8);
    T.fine(34, "one week", c, c.weeks(5, 1), 4);
    T.fine(35, "all four", c, c.week(0), 0);
    T.fine(34, "two weeks", c, c.weeks(5, 2), 4);
    T.fine(35, "twos", c, c.week(0) * 10 + c.week(1), 12);
    T.fine(34, "three weeks", c, c.weeks(5, 3), 4);
    T.fine(35, "twos", c, c.week(0) * 100 + c.week(1) * 10 + c.week(2), 123);
    T.none(34, "four weeks", c, c.weeks(5, 4), 6);
    c.sizes(1 | 2 | 8);
    T.fine(34, "with those alone: 10 in ones and twos, and all four", c, c.weeks(5, 2), 11);
    T.fine(35, "all four, then all alone", c, c.week(0) * 100 + c.week(1), 10);
    T.fine(34, "five weeks", c, c.weeks(5, 5), 11);
    T.fine(35, "all four, then all alone, again and again", c, c.week(0) * 100 + c.week(4), 10);
    c = Check.people(3);
    c.sizes(3);
    T.fine(34, "four weeks", c, c.weeks(5, 4), 4);
    T.fine(35, "each two once, then all alone", c, c.week(0) * 1000 + c.week(1) * 100 + c.week(2) * 10 + c.week(3), 123);
    T.fine(34, "five weeks", c, c.weeks(5, 5), 4);
    T.fine(35, "all alone once more", c, c.week(3) * 10 + c.week(4), 33);
  }

  private static void weeksWithKin() {
    for (int kinA = 0; kinA <= 2; kinA++) {
      for (int kinB = 0; kinB <= 2; kinB++) {
        CabinPeace c = new CabinPeace();
        c.person(1, kinA);
        c.person(2, kinB);
        c.sizes(2);
        boolean may = kinA == kinB && kinA != 0;
        T.fine(34, "one week", c, c.weeks(0, 1), 1);
        T.due(34, "kins " + kinA + " and " + kinB, c.weeks(0, 2), may ? 1 : -1);
        T.due(34, "their status", c.status(), may ? 0 : 6);
      }
    }
    CabinPeace c = new CabinPeace();
    for (int p = 0; p < 8; p++) { c.person(p + 1, p == 7 ? 8 : 9); }
    c.sizes(128);
    T.fine(34, "all eight once", c, c.weeks(0, 1), 1);
    T.none(34, "h is of another kin", c, c.weeks(0, 2), 6);
    c = new CabinPeace();
    for (int p = 0; p < 8; p++) { c.person(p + 1, 9); }
    T.fine(34, "all eight of one kin", c, c.weeks(0, 5), 4140);
    for (int k = 0; k < 5; k++) { T.fine(35, "all together each week", c, c.week(k), 0); }
  }

  private static void latestWeeks() {
    CabinPeace c = Check.people(4);
    T.none(35, "no weeks yet", c, c.week(0), 6);
    T.none(35, "no weeks yet", c, c.week(-1), 1);
    c.sizes(2);
    c.weeks(5, 4);
    T.none(35, "those were none", c, c.week(0), 6);
    c.weeks(5, 3);
    c.weeks(5, 4);
    c.weeks(5, 6);
    c.weeks(6, 1);
    T.fine(35, "the latest with STATUS 0", c, c.week(2), 2);
    c.sizes(1);
    c.person(5, 0);
    Check.wish(c, 0, "add 1;");
    T.fine(35, "as it was then", c, c.week(1), 1);
    c.weeks(5, 1);
    T.none(35, "one week alone now", c, c.week(1), 6);
    T.fine(35, "all alone", c, c.week(0), 0);
  }

  private static void weeksOfNone() {
    CabinPeace c = new CabinPeace();
    for (int many = 1; many <= 5; many++) { T.fine(34, "nobody", c, c.weeks(3, many), 1); }
    for (int k = 0; k < 5; k++) { T.fine(35, "the only parting", c, c.week(k), 0); }
    c = Check.chase();
    for (int many = 1; many <= 5; many++) { T.none(34, "no peace", c, c.weeks(4, many), 6); }
    T.none(34, "1 ahead of 6", c, c.weeks(4, 0), 1);
    T.fine(34, "peace of another kind", c, c.weeks(3, 3), 3);
    T.none(34, "each two has been", c, c.weeks(3, 4), 6);
    T.fine(34, "those alone again and again", c, c.weeks(0, 5), 4);
  }

  /** Eight people, of whom each one goes: those who stay are numbered from 0, who goes has no group. */
  private static void everyoneGoes() {
    for (int p = 0; p < 8; p++) {
      CabinPeace c = Check.people(8);
      Check.tell(c, 3, "76543210");
      T.fine(36, "nobody is moved", c, c.goes(3, 4, p), 0);
      int number = 0;
      for (int q = 0; q < 8; q++) {
        if (q == p) {
          T.none(37, "who goes", c, c.gone(q), 6);
        } else {
          T.fine(37, "numbered as they come", c, c.gone(q), number++);
        }
      }
      T.none(37, "nobody", c, c.gone(8), 1);
      T.none(37, "nobody", c, c.gone(-1), 1);
      T.due(36, "the tray stays", Check.told(c, 3, 8), 176543210);
      T.fine(22, "it is there still", c, c.count(-1), 4140);
    }
    CabinPeace c = Check.people(1);
    c.tray(0, 0, 1);
    T.fine(36, "the only one", c, c.goes(0, 0, 0), 0);
    T.none(37, "it has no group", c, c.gone(0), 6);
    c.sizes(2);
    T.none(36, "the told one must be a parting", c, c.goes(0, 0, 0), 1);
  }

  /** Whose group is another one, but for who goes; to be left by it alone is not to be moved. */
  private static void whoIsMoved() {
    CabinPeace c = Check.people(4);
    Check.tell(c, 0, "0011");
    T.fine(36, "a leaves b: nobody is moved", c, c.goes(0, 5, 0), 0);
    T.fine(37, "b alone, c with d", c, c.gone(1) * 100 + c.gone(2) * 10 + c.gone(3), 11);
    Check.wish(c, 1, "bar size=1;");
    Check.wish(c, 2, "add b;");
    T.fine(36, "b comes to c and d: all three are moved", c, c.goes(0, 1, 0), 3);
    T.fine(37, "all in one", c, c.gone(1) + c.gone(2) + c.gone(3), 0);
    Check.wish(c, 3, "add 0-b;");
    T.fine(36, "d goes from b, c with b: b, c, d are moved", c, c.goes(0, 1, 0), 3);
    T.fine(37, "b and c, then d", c, c.gone(1) * 100 + c.gone(2) * 10 + c.gone(3), 1);
    Check.tell(c, 0, "0012");
    T.fine(36, "d stays alone: b and c are moved", c, c.goes(0, 1, 0), 2);
    Check.tell(c, 0, "1002");
    T.fine(36, "nobody is moved", c, c.goes(0, 1, 0), 0);
    Check.tell(c, 0, "7667");
    T.fine(36, "d was with a alone: nobody is moved", c, c.goes(0, 1, 0), 0);
  }

  private static void fewestMoved() {
    // Of all partings with peace (sizes of 1 and 3) that where fewest are moved.
    CabinPeace c = Check.people(5);
    c.sizes(1 | 4);
    Check.tell(c, 0, "00012");
    T.fine(36, "d goes", c, c.goes(0, 5, 3), 0);
    T.fine(36, "a goes: two are not lawful, so b and c are moved", c, c.goes(0, 5, 0), 2);
    T.fine(37, "all alone", c, c.gone(1) * 1000 + c.gone(2) * 100 + c.gone(3) * 10 + c.gone(4), 123);
    c.sizes(4 | 1 | 16);
    Check.tell(c, 0, "00000");
    T.fine(36, "four are not lawful: three of them, or all alone: four are moved", c, c.goes(0, 5, 4), 4);
    T.fine(37, "the first: {abc}{d}", c, c.gone(0) * 1000 + c.gone(1) * 100 + c.gone(2) * 10 + c.gone(3), 1);
    c = Check.people(8);
    c.sizes(1 | 128);
    c.tray(0, 0, 8);
    T.fine(36, "all seven", c, c.goes(0, 5, 7), 7);
    for (int p = 0; p < 7; p++) { T.fine(37, "alone", c, c.gone(p), p); }
  }

  private static void firstOfSeveral() {
    CabinPeace c = Check.people(5);
    c.sizes(2 | 16);
    c.tray(0, 0, 5);
    for (int p = 0; p < 5; p++) {
      T.fine(36, "four in twos", c, c.goes(0, 5, p), 4);
      int[] number = {0, 0, 1, 1};
      int next = 0;
      for (int q = 0; q < 5; q++) {
        if (q != p) { T.fine(37, "the first two, then the others", c, c.gone(q), number[next++]); }
      }
    }
    c = Check.people(4);
    c.sizes(1 | 2 | 8);
    c.tray(0, 0, 4);
    T.fine(36, "three of four", c, c.goes(0, 5, 1), 3);
    T.fine(37, "a and c, then d", c, c.gone(0) * 100 + c.gone(2) * 10 + c.gone(3), 1);
  }

  private static void goesWithoutMusts() {
    CabinPeace c = Check.people(3);
    c.must(0, 1, true);
    c.must(1, 2, false);
    Check.tell(c, 0, "001");
    T.fine(36, "b goes: its musts go too", c, c.goes(0, 5, 1), 0);
    T.fine(37, "a, then c", c, c.gone(0) * 10 + c.gone(2), 1);
    T.fine(36, "a goes: b and c are apart still", c, c.goes(0, 5, 0), 0);
    T.fine(37, "b, then c", c, c.gone(1) * 10 + c.gone(2), 1);
    Check.wish(c, 1, "add c;");
    Check.wish(c, 2, "add b;");
    T.fine(36, "however they want each other", c, c.goes(0, 4, 0), 0);
    Check.wish(c, 0, "add 5*b; add c;");
    Check.wish(c, 2, "add a;");
    T.fine(36, "b goes: a and c come together", c, c.goes(0, 4, 1), 2);
    T.fine(16, "the musts are there still", c, c.lawful(1), 0);
  }

  /** Each one in turn goes, with whom another one would swap, or to whom, or who would move itself. */
  private static void whoGoesBreaksNothing() {
    for (int p = 0; p < 8; p++) {
      int q = (p + 1) % 8;
      int r = (p + 2) % 8;
      CabinPeace c = Check.people(8);
      Check.wish(c, q, "add 1 if size=1;");
      Check.wish(c, p, "add " + (char) ('a' + r) + ";");
      c.tray(0, 0, 8);
      for (int i = 0; i < 8; i++) { c.write(0, i, i == r ? q : i); }
      T.fine(17, "q would swap with p", c, c.breaks(0, 5), 1);
      T.fine(22, "not all have peace", c, c.count(5) < 4140 ? 1 : 0, 1);
      T.fine(36, "p goes: nobody swaps", c, c.goes(0, 5, p), 0);
      T.due(37, "q is with r", c.gone(q) == c.gone(r), true);
      Check.wish(c, q, "");
      T.fine(17, "p would move to r", c, c.breaks(0, 1), 1);
      T.fine(36, "p goes: nobody moves", c, c.goes(0, 1, p), 0);
      Check.wish(c, q, "add 5*" + (char) ('a' + p) + ";");
      Check.wish(c, p, "add 5*" + (char) ('a' + q) + ";");
      T.fine(17, "p and q would come together", c, c.first(0, 4, 0), 1 << p | 1 << q);
      T.fine(36, "p goes: nobody comes together", c, c.goes(0, 4, p), 0);
      T.none(37, "p has no group", c, c.gone(p), 6);
    }
  }

  /** Each one in turn goes, who likes many around it and whom all others like: each stays where it is, alone. */
  private static void whoGoesSwapsNot() {
    for (int n = 3; n <= 8; n++) {
      for (int p = 0; p < n; p++) {
        CabinPeace c = Check.people(n);
        Check.wish(c, p, "add size;");
        for (int q = 0; q < n; q++) {
          if (q != p) { Check.wish(c, q, "add 9*" + (char) ('a' + p) + ";"); }
        }
        c.tray(0, 0, n);
        for (int i = 0; i < n; i++) { c.write(0, i, i); }
        c.count(5);
        T.fine(36, p + " of " + n + " goes", c, c.goes(0, 5, p), 0);
        for (int q = 0, next = 0; q < n; q++) {
          if (q != p) { T.fine(37, "alone, as they were", c, c.gone(q), next++); }
        }
      }
    }
  }

  private static void goesNone() {
    CabinPeace c = Check.people(4);
    c.sizes(2);
    c.tray(0, 0, 4);
    c.write(0, 2, 1);
    c.write(0, 3, 1);
    for (int kind = 0; kind < 6; kind++) {
      for (int p = 0; p < 4; p++) { T.none(36, "three can't be twos", c, c.goes(0, kind, p), 6); }
    }
    T.none(37, "nobody has gone", c, c.gone(0), 6);
    c = Check.chase();
    c.person(4, 0);
    c.sizes(3);
    Check.tell(c, 0, "0011");
    T.none(36, "without d there is no peace", c, c.goes(0, 4, 3), 6);
    T.fine(36, "without c there is", c, c.goes(0, 4, 2), 0);
    T.fine(36, "of another kind there is", c, c.goes(0, 3, 3), 0);
  }

  private static void latestGone() {
    CabinPeace c = Check.people(3);
    for (int p = 0; p < 3; p++) { T.none(37, "none yet", c, c.gone(p), 6); }
    Check.tell(c, 0, "012");
    c.goes(0, 6, 0);
    c.goes(0, 4, 3);
    T.none(37, "refused ones are none", c, c.gone(1), 6);
    c.goes(0, 4, 0);
    c.goes(1, 4, 1);
    c.goes(0, -1, 1);
    T.fine(37, "the latest with STATUS 0", c, c.gone(1), 0);
    T.none(37, "a went", c, c.gone(0), 6);
    c.goes(0, 4, 1);
    T.none(37, "b goes: it has none now", c, c.gone(1), 6);
    T.fine(37, "a has one again", c, c.gone(0), 0);
    c.sizes(2);
    Check.wish(c, 0, "add 7;");
    T.fine(37, "as it was then", c, c.gone(2), 1);
    c.person(4, 0);
    T.none(37, "one who came later has none", c, c.gone(3), 6);
    T.none(37, "nobody", c, c.gone(4), 1);
  }
}
