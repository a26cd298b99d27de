/** Part 3 of the terms: what stands for none, of several the first, of several the least set, at their limits. */
public final class EdgesOfPeaceTest {
  private static final Check T = new Check("EdgesOfPeaceTest");

  public static void main(String[] args) {
    nobody();
    oneWhoMayNot();
    noPartings();
    changesCount();
    firstOfSeveral();
    sumsAtTheEnds();
    leastAtTheEnds();
    barredCounts();
    togetherOfAll();
    knotFewest();
    knotLeastSet();
    knotOfSwaps();
    knotWithoutOthers();
    nearFewest();
    nearAnew();
    bearByOne();
    bearAtTheEnds();
    bearOfBlocs();
    bearNone();
    words();
    wordsAtTheCut();
    wordsOfAll();
    sizes();
    persons();
    greedyOfSeveral();
    greedyNone();
    T.end();
  }

  private static void nobody() {
    CabinPeace c = new CabinPeace();
    for (int kind = -1; kind < 6; kind++) { T.fine(22, "one parting of nobody", c, c.count(kind), 1); }
    for (int kind = 0; kind < 6; kind++) {
      T.fine(24, "the sum of nobody", c, c.sum(kind, 1), 0);
      T.fine(24, "the least of nobody", c, c.sum(kind, 2), 0);
      T.none(23, "nobody has a group", c, c.room(kind, 0, 0), 1);
      T.none(25, "nobody", c, c.together(kind, 0, 1), 1);
      T.none(26, "there is peace", c, c.knot(kind), 6);
      T.fine(27, "there is peace", c, c.near(kind), 0);
      T.none(28, "nobody has a group", c, c.nearRoom(kind, 0), 1);
      T.fine(29, "nothing to bear", c, c.bear(kind), 0);
      for (int what = 0; what < 7; what++) { T.none(30, "there is peace", c, c.mend(kind, what), 6); }
      T.none(33, "nobody", c, c.gain(kind, 0, 0), 1);
    }
    T.none(32, "nobody", c, c.greedy(0), 1);
    c.sizes(128);
    T.fine(22, "sizes do not matter to nobody", c, c.count(4), 1);
  }

  /** One person, and groups of two alone are lawful. */
  private static void oneWhoMayNot() {
    CabinPeace c = Check.people(1);
    c.sizes(2);
    for (int kind = -1; kind < 6; kind++) { T.fine(22, "none", c, c.count(kind), 0); }
    for (int kind = 0; kind < 6; kind++) {
      T.none(23, "none", c, c.room(kind, 0, 0), 6);
      T.none(24, "none", c, c.sum(kind, 1), 6);
      T.none(24, "none", c, c.sum(kind, 2), 6);
      T.fine(26, "it is the knot", c, c.knot(kind), 1);
      T.none(27, "none is near", c, c.near(kind), 6);
      T.none(28, "none is near", c, c.nearRoom(kind, 0), 6);
      T.none(29, "nothing helps", c, c.bear(kind), 6);
      T.fine(30, "no word", c, c.mend(kind, 0), 0);
      T.fine(30, "a size", c, c.mend(kind, 3), 1);
      T.fine(30, "one", c, c.mend(kind, 4), 1);
      T.fine(30, "a person", c, c.mend(kind, 5), 1);
      T.fine(30, "it", c, c.mend(kind, 6), 0);
      T.none(34, "none", c, c.weeks(kind, 1), 6);
    }
    T.none(32, "none", c, c.greedy(0), 6);
    c.sizes(3);
    T.fine(22, "now there is one", c, c.count(4), 1);
    T.none(26, "and peace", c, c.knot(4), 6);
  }

  private static void noPartings() {
    CabinPeace c = Check.people(3);
    Check.wish(c, 0, "add b;");
    c.must(0, 1, true);
    c.must(1, 2, true);
    c.must(0, 2, false);
    for (int kind = 0; kind < 6; kind++) {
      T.fine(22, "none", c, c.count(kind), 0);
      T.fine(25, "in none of none", c, c.together(kind, 0, 1), 0);
      T.fine(26, "all three are needed to show it", c, c.knot(kind), 7);
      T.none(27, "none is near", c, c.near(kind), 6);
      T.none(28, "none is near", c, c.nearRoom(kind, 2), 6);
      T.none(29, "nothing helps", c, c.bear(kind), 6);
      T.fine(30, "no word", c, c.mend(kind, 0), 0);
      T.fine(30, "no size", c, c.mend(kind, 3), 0);
      T.fine(30, "each person", c, c.mend(kind, 5), 3);
      T.none(33, "no gain", c, c.gain(kind, 0, 0), 6);
    }
  }

  /** What was found is found anew when people, sizes, musts or wishes have changed. */
  private static void changesCount() {
    CabinPeace c = Check.people(2);
    T.fine(22, "two", c, c.count(4), 2);
    T.fine(27, "peace", c, c.near(4), 0);
    c.person(3, 0);
    T.fine(22, "three", c, c.count(4), 5);
    T.fine(28, "three, all together", c, c.nearRoom(4, 2), 0);
    T.fine(23, "three, all together", c, c.room(4, 0, 2), 0);
    c.sizes(1);
    T.fine(22, "alone", c, c.count(4), 1);
    T.fine(28, "alone", c, c.nearRoom(4, 2), 2);
    T.fine(23, "alone", c, c.room(4, 0, 2), 2);
    c.sizes(255);
    c.must(0, 1, false);
    T.fine(22, "three less two", c, c.count(4), 3);
    T.fine(28, "a and c", c, c.nearRoom(4, 2), 0);
    T.fine(28, "b", c, c.nearRoom(4, 1), 1);
    Check.wish(c, 2, "add 1 if size=1;");
    T.fine(22, "c alone", c, c.count(4), 1);
    T.fine(28, "c alone", c, c.nearRoom(4, 2), 2);
    Check.wish(c, 2, "add 1 if size=");
    T.fine(22, "a fault changes nothing", c, c.count(4), 1);
    c.wish(2, 0);
    T.fine(22, "an empty wish", c, c.count(4), 3);
    c = Check.chase();
    T.fine(30, "words", c, c.mend(4, 0), 6);
    c.person(4, 0);
    T.fine(30, "one more, who could be c's: words still", c, c.mend(4, 5), 3);
    c.sizes(7);
    T.none(30, "now there is peace", c, c.mend(4, 0), 6);
    c.sizes(3);
    T.fine(30, "now there is none", c, c.mend(4, 6), 0);
  }

  private static void firstOfSeveral() {
    // Three, all partings are peace, each worth the same: the first by whatever is asked.
    CabinPeace c = Check.people(3);
    for (int p = 0; p < 3; p++) { Check.wish(c, p, "add 4;"); }
    for (int what = 0; what < 3; what++) {
      for (int p = 0; p < 3; p++) { T.fine(23, "all together", c, c.room(5, what, p), 0); }
    }
    T.fine(24, "the sum", c, c.sum(5, 1), 12);
    T.fine(24, "the least", c, c.sum(5, 2), 4);
    // A later one is better by one.
    Check.wish(c, 2, "add 4; add 1 if size=1;");
    T.fine(23, "c alone, a with b", c, c.room(5, 1, 2) * 10 + c.room(5, 1, 1), 10);
    T.fine(23, "the least is 4 in all", c, c.room(5, 2, 2), 0);
    T.fine(24, "the sum", c, c.sum(5, 1), 13);
    T.fine(24, "the least", c, c.sum(5, 2), 4);
    Check.wish(c, 0, "add 4; add 1 if size=1;");
    Check.wish(c, 1, "add 4; add 1 if size=1;");
    T.fine(23, "all alone", c, c.room(5, 1, 2), 2);
    T.fine(23, "all alone", c, c.room(5, 2, 2), 2);
    T.fine(24, "the sum", c, c.sum(5, 1), 15);
    T.fine(24, "the least", c, c.sum(5, 2), 5);
  }

  private static void sumsAtTheEnds() {
    CabinPeace c = Check.people(8);
    for (int p = 0; p < 8; p++) { Check.wish(c, p, "add 9999*9999;"); }
    T.fine(24, "eight times the most", c, c.sum(4, 1), 8000000);
    T.fine(24, "the most", c, c.sum(4, 2), 1000000);
    for (int p = 0; p < 8; p++) { Check.wish(c, p, "add 0-9999*9999;"); }
    T.fine(24, "eight times the least", c, c.sum(4, 1), -8000000);
    T.fine(24, "the least", c, c.sum(4, 2), -1000000);
    for (int p = 0; p < 8; p++) { Check.wish(c, p, "bar 1=1; add 9999*9999;"); }
    T.fine(24, "eight times barred", c, c.sum(4, 1), -8000000);
    T.fine(24, "barred", c, c.sum(4, 2), -1000000);
    T.fine(23, "the first of all", c, c.room(4, 1, 7) + c.room(4, 2, 7), 0);
    for (int p = 0; p < 8; p++) { Check.wish(c, p, p == 3 ? "add 0-1;" : ""); }
    T.fine(24, "a -1 that is no NONE", c, c.sum(4, 1), -1);
    T.fine(24, "a -1 that is no NONE", c, c.sum(4, 2), -1);
  }

  private static void leastAtTheEnds() {
    for (int p = 0; p < 8; p++) {
      CabinPeace c = Check.people(8);
      Check.wish(c, p, "add 0-3 if size>1; add 0-2 if size=1;");
      T.fine(24, "the least is that of " + p, c, c.sum(5, 2), -2);
      T.fine(24, "the sum is that of " + p, c, c.sum(5, 1), -2);
      int alone = c.room(5, 2, p);
      for (int q = 0; q < 8; q++) { T.due(23, p + " is alone", c.room(5, 2, q) == alone, q == p); }
    }
  }

  /** A barred group counts -1,000,000, be it worth more or not; it is neither better nor worse than one worth that. */
  private static void barredCounts() {
    CabinPeace c = Check.people(2);
    Check.wish(c, 0, "bar b=1; add 7*b; add 0-1000*1000 if size=1;");
    T.fine(24, "both partings, kind 5", c, c.count(5), 2);
    T.fine(24, "the sum", c, c.sum(5, 1), -1000000);
    T.fine(24, "the least", c, c.sum(5, 2), -1000000);
    T.fine(23, "of several the first", c, c.room(5, 1, 1), 0);
    T.fine(23, "of several the first", c, c.room(5, 2, 1), 0);
    Check.wish(c, 0, "bar b=1; add 7*b; add 1-1000*1000 if size=1;");
    T.fine(24, "the sum", c, c.sum(5, 1), -999999);
    T.fine(23, "by one better", c, c.room(5, 1, 1), 1);
    T.fine(23, "by one better", c, c.room(5, 2, 1), 1);
  }

  private static void togetherOfAll() {
    CabinPeace c = Check.people(8);
    for (int a = 0; a < 8; a++) {
      for (int b = 0; b < 8; b++) {
        if (a != b) { T.fine(25, "of 4140", c, c.together(0, a, b), 877); }
      }
      T.none(25, "one alone", c, c.together(0, a, a), 1);
    }
    c.must(6, 7, true);
    T.fine(25, "in all", c, c.together(0, 6, 7), 877);
    T.fine(25, "in all", c, c.together(0, 7, 6), 877);
    c.must(0, 7, false);
    T.fine(25, "in none", c, c.together(0, 6, 0), 0);
    T.none(25, "one who is not there", c, c.together(0, 0, 8), 1);
  }

  /** d and e alone show it; a, b and c do so too, and are a lesser set, but more. */
  private static void knotFewest() {
    CabinPeace c = Check.people(5);
    c.sizes(3);
    Check.wish(c, 0, "add 2*b; add c;");
    Check.wish(c, 1, "add 2*c; add a;");
    Check.wish(c, 2, "add 2*a; add b;");
    T.fine(26, "a, b and c", c, c.knot(4), 7);
    c.must(3, 4, true);
    c.must(3, 4, false);
    T.fine(26, "d and e are fewer", c, c.knot(4), 24);
    // Moves: e runs after d, d from e.
    c = Check.people(5);
    Check.wish(c, 4, "add d;");
    Check.wish(c, 3, "add 0-e;");
    T.fine(26, "d and e", c, c.knot(1), 24);
    T.none(26, "asked, there is peace", c, c.knot(2), 6);
    c.sizes(2);
    T.fine(26, "one alone is not lawful", c, c.knot(1), 1);
  }

  private static void knotLeastSet() {
    for (int skip = 0; skip < 3; skip++) {
      CabinPeace c = Check.people(6);
      for (int pair = 2; pair >= skip; pair--) {
        c.must(2 * pair, 2 * pair + 1, true);
        c.must(2 * pair + 1, 2 * pair, false);
      }
      T.fine(26, "the least of " + (3 - skip) + " pairs", c, c.knot(3), 3 << 2 * skip);
    }
    // {a, d} is 9, {b, c} is 6: the lesser set, though a is the lesser person.
    CabinPeace c = Check.people(4);
    c.must(0, 3, true);
    c.must(0, 3, false);
    c.must(1, 2, true);
    c.must(1, 2, false);
    T.fine(26, "b and c", c, c.knot(5), 6);
  }

  /** Four in twos: from each of the three partings two would swap to the next one, each of them for one more. */
  private static void knotOfSwaps() {
    CabinPeace c = Check.people(4);
    c.sizes(2);
    Check.wish(c, 0, "add 3*c+2*b+d;");
    Check.wish(c, 2, "add 3*d+2*b+a;");
    Check.wish(c, 3, "add 3*a+2*b+c;");
    T.fine(22, "three partings", c, c.count(-1), 3);
    T.fine(22, "without peace", c, c.count(5), 0);
    T.fine(26, "one alone is not lawful", c, c.knot(5), 1);
    T.fine(27, "one break", c, c.near(5), 1);
    T.fine(28, "the first", c, c.nearRoom(5, 1) * 100 + c.nearRoom(5, 2) * 10 + c.nearRoom(5, 3), 11);
    T.fine(29, "one more", c, c.bear(5), 1);
    T.fine(30, "without the words of a, of c, of d", c, c.mend(5, 0), 3);
    T.fine(30, "1 or 4", c, c.mend(5, 3), 2);
    T.fine(30, "1", c, c.mend(5, 4), 1);
    T.fine(30, "three can't be twos", c, c.mend(5, 5), 0);
    T.none(30, "three can't be twos", c, c.mend(5, 6), 6);
    c.sizes(1 | 2);
    T.none(26, "all alone", c, c.knot(5), 6);
    c.sizes(2 | 8);
    T.none(26, "all together", c, c.knot(5), 6);
  }

  /** Musts with one who is not there do not count: a alone, bound to b, is no knot; a and b, where both are. */
  private static void knotWithoutOthers() {
    CabinPeace c = Check.people(3);
    c.must(0, 1, true);
    c.sizes(1);
    T.fine(26, "a and b", c, c.knot(4), 3);
    c.sizes(2);
    T.fine(26, "a alone", c, c.knot(4), 1);
    c.sizes(1 | 2);
    T.none(26, "peace", c, c.knot(4), 6);
    // c wants b, who is bound to a; with groups of two alone or one.
    Check.wish(c, 2, "bar b=0;");
    Check.wish(c, 1, "bar c=0;");
    T.none(26, "bound as they are there is peace", c, c.knot(4), 6);
    c.must(1, 2, true);
    T.fine(26, "a, b and c: no group of three", c, c.knot(4), 7);
    T.fine(30, "without a or b or c", c, c.mend(4, 5), 3);
    T.fine(30, "with groups of three", c, c.mend(4, 4), 3);
  }

  private static void nearFewest() {
    // Moves: a runs after b, b from a, both from c; one or two breaks.
    CabinPeace c = Check.people(2);
    Check.wish(c, 0, "add b;");
    Check.wish(c, 1, "add 0-a;");
    T.fine(27, "one break in each", c, c.near(1), 1);
    T.fine(28, "the first", c, c.nearRoom(1, 1), 0);
    c.person(3, 0);
    Check.wish(c, 2, "add 1 if size=1;");
    T.fine(27, "with a, b would leave, alone or to c: two; all alone: one", c, c.near(1), 1);
    T.fine(28, "b", c, c.nearRoom(1, 1), 1);
    T.fine(28, "c", c, c.nearRoom(1, 2), 2);
    Check.wish(c, 0, "add b; add 0-2 if size=2;");
    T.fine(27, "a and b leave: two; a does not come: none", c, c.near(1), 0);
    T.fine(28, "all alone", c, c.nearRoom(1, 2), 2);
    // Without a near() ahead of it, and for another kind than the latest.
    c = Check.chase();
    T.fine(28, "c", c, c.nearRoom(4, 2), 1);
    T.fine(28, "c, kind 0", c, c.nearRoom(0, 2), 1);
    T.fine(28, "b, kind 4", c, c.nearRoom(4, 1), 0);
  }

  private static void nearAnew() {
    CabinPeace c = Check.chase();
    T.fine(27, "one", c, c.near(4), 1);
    c.must(0, 1, true);
    c.must(0, 2, true);
    T.none(27, "no parting", c, c.near(4), 6);
    T.none(28, "no parting", c, c.nearRoom(4, 0), 6);
    c.sizes(7);
    T.fine(27, "all three", c, c.near(4), 0);
    T.fine(28, "all three", c, c.nearRoom(4, 2), 0);
    T.none(28, "1 ahead of 6", c, c.nearRoom(4, 3), 1);
  }

  /** {ab}: b wants to leave by so much; {a}{b}: a wants to come by so much: the lesser of both must be borne. */
  private static void bearByOne() {
    for (int come = 1; come <= 4; come++) {
      for (int leave = 1; leave <= 4; leave++) {
        CabinPeace c = Check.people(2);
        Check.wish(c, 0, "add " + come + "*b;");
        Check.wish(c, 1, "add 0-" + leave + "*a;");
        T.fine(29, "a " + come + ", b " + leave, c, c.bear(1), Math.min(come, leave));
        T.fine(22, "no peace", c, c.count(1), 0);
      }
    }
    // The core asks all of its people: what the one bears who has the least of it.
    CabinPeace c = Check.people(3);
    c.sizes(3);
    Check.wish(c, 0, "add 20*b; add 10*c;");
    Check.wish(c, 1, "add 20*c; add 19*a;");
    Check.wish(c, 2, "add 20*a; add 10*b;");
    T.fine(29, "{ab}{c}: b has 1 by {bc}", c, c.bear(4), 1);
    Check.wish(c, 1, "add 20*c; add 20*a;");
    T.fine(29, "{ab}{c}: b has nothing by it", c, c.bear(4), 0);
  }

  private static void bearAtTheEnds() {
    CabinPeace c = Check.people(2);
    Check.wish(c, 0, "add 1000*1000 if size=2; add 0-1000*1000 if size=1;");
    Check.wish(c, 1, "add 1000*1000 if size=1; add 0-1000*1000 if size=2;");
    T.fine(29, "as much as there can be", c, c.bear(1), 2000000);
    Check.wish(c, 1, "add 1000*1000-1 if size=1; add 0-1000*1000 if size=2;");
    T.fine(29, "one less", c, c.bear(1), 1999999);
    Check.wish(c, 1, "add 9999*9999 if size=1; add 0-9999*9999 if size=2;");
    T.fine(29, "worths are cut", c, c.bear(1), 2000000);
    Check.wish(c, 1, "bar a=1;");
    T.fine(29, "b bars {ab}: a must bear to be alone", c, c.bear(1), 2000000);
    Check.wish(c, 0, "add 3*b;");
    T.fine(29, "b bars {ab}: a must bear to be alone", c, c.bear(1), 3);
  }

  /** Three who chase each other, each of them some people who must be together: what breaks is any group up to 254. */
  private static void bearOfBlocs() {
    int[][] two = {{1, 2}, {1, 4}, {7, 56}, {63, 64}, {64, 128}, {64, 1}, {128, 1}, {31, 32}, {128, 63}, {192, 1},
        {64, 32}, {128, 126}, {96, 128}, {62, 64}, {2, 252}, {64, 62}, {32, 16}};
    for (int[] pair : two) { bearOfBlocs(pair[0], pair[1], 255 ^ pair[0] ^ pair[1]); }
  }

  private static void bearOfBlocs(int... bloc) {
    CabinPeace c = Check.people(8);
    int[][] likes = {{0, 20, 15}, {10, 0, 20}, {30, 11, 0}};
    for (int i = 0; i < 3; i++) {
      StringBuilder wish = new StringBuilder("add 0");
      for (int j = 0; j < 3; j++) { wish.append('+').append(likes[i][j]).append('*').append((char) ('a' + least(bloc[j]))); }
      for (int p = 0; p < 8; p++) {
        boolean inside = (bloc[i] >> p & 1) == 1;
        if (inside) { Check.wish(c, p, wish + ";"); }
        if (inside && p != least(bloc[i])) { c.must(least(bloc[i]), p, true); }
      }
    }
    c.sizes(127);
    String what = "blocs " + bloc[0] + ", " + bloc[1] + ", " + bloc[2];
    T.fine(22, what, c, c.count(-1), 4);
    T.fine(22, what, c, c.count(4), 0);
    T.fine(29, what + ": the first bears 5 to be with the third", c, c.bear(4), 5);
    T.fine(27, what + ": one break where two are together", c, c.near(4), 1);
  }

  private static int least(int group) { return Integer.numberOfTrailingZeros(group); }

  private static void bearNone() {
    CabinPeace c = Check.unhappy();
    T.none(29, "each parting has one who is in a barred group and can go", c, c.bear(1), 6);
    T.fine(29, "asked, a says no", c, c.bear(2), 0);
    c.sizes(1);
    T.fine(29, "alone there is no way", c, c.bear(1), 0);
    c.sizes(2);
    T.fine(29, "together there is no way", c, c.bear(1), 0);
    c.sizes(4);
    T.none(29, "no partings", c, c.bear(1), 6);
    // From a barred group to a barred one nobody goes.
    c = Check.unhappy();
    Check.wish(c, 0, "bar 1=1;");
    Check.wish(c, 1, "bar 1=1;");
    T.fine(29, "all is barred: peace", c, c.bear(1), 0);
  }

  /** The first by person, then by its number; those that change nothing are none. */
  private static void words() {
    CabinPeace c = Check.people(2);
    Check.wish(c, 0, "add 0; add b;");
    Check.wish(c, 1, "add 0-a;");
    T.fine(30, "two words", c, c.mend(1, 0), 2);
    T.fine(30, "of a", c, c.mend(1, 1), 0);
    T.fine(30, "the second", c, c.mend(1, 2), 1);
    Check.wish(c, 0, "add b; add b;");
    T.fine(30, "one of two that say the same is none", c, c.mend(1, 0), 1);
    T.fine(30, "of b", c, c.mend(1, 1), 1);
    T.fine(30, "the first", c, c.mend(1, 2), 0);
    Check.wish(c, 1, "add 0-a; add 0-a;");
    T.fine(30, "none", c, c.mend(1, 0), 0);
    T.none(30, "none", c, c.mend(1, 1), 6);
    T.none(30, "none", c, c.mend(1, 2), 6);
    Check.wish(c, 1, "add 0;".repeat(11) + "bar a=1;");
    T.fine(30, "a bar, the twelfth", c, c.mend(1, 0), 1);
    T.fine(30, "of b", c, c.mend(1, 1), 1);
    T.fine(30, "the twelfth", c, c.mend(1, 2), 11);
    Check.wish(c, 1, "add 0-a;" + "add 0;".repeat(11));
    T.fine(30, "the first of twelve", c, c.mend(1, 0) * 100 + c.mend(1, 2), 100);
    T.fine(15, "wishes are as they were", c, c.rather(1, 2, 3), 1);
    T.fine(22, "wishes are as they were", c, c.count(1), 0);
  }

  /** A bar left out changes no worth: those at the cut, and just beyond it, stay alike. */
  private static void wordsAtTheCut() {
    String[] cut = {"add 1000*1000; add 1 if size=1;", "add 0-1000*1000; add 0-1 if size=2;"};
    for (String worths : cut) {
      CabinPeace c = Check.people(2);
      Check.wish(c, 0, "bar size=2;" + worths);
      Check.wish(c, 1, "add a;");
      T.fine(22, "b comes, a leaves", c, c.count(1), 0);
      T.fine(30, "a's bar, b's word", c, c.mend(1, 0), 2);
      T.fine(30, "a's bar first", c, c.mend(1, 1) * 10 + c.mend(1, 2), 0);
    }
    CabinPeace c = Check.people(2);
    Check.wish(c, 0, "bar size=2; add 1000*1000-1; add 1 if size=1;");
    Check.wish(c, 1, "add a;");
    T.fine(30, "just below the cut a would be alone, bar or not", c, c.mend(1, 0), 1);
    T.fine(30, "b's word", c, c.mend(1, 1) * 10 + c.mend(1, 2), 10);
  }

  private static void wordsOfAll() {
    // Eight people, the last two of whom can't agree: words of g and h alone.
    CabinPeace c = Check.people(8);
    for (int p = 0; p < 6; p++) { Check.wish(c, p, "add 1;"); }
    c.sizes(1 | 2);
    for (int p = 0; p < 6; p++) { c.must(p, 7, false); c.must(p, 6, false); }
    Check.wish(c, 6, "add 3*h; add 0-a;");
    Check.wish(c, 7, "add 0-g;");
    T.fine(30, "two words", c, c.mend(1, 0), 2);
    T.fine(30, "of g", c, c.mend(1, 1) * 10 + c.mend(1, 2), 60);
    T.fine(30, "two persons", c, c.mend(1, 5), 2);
    T.fine(30, "g", c, c.mend(1, 6), 6);
    T.fine(30, "no size", c, c.mend(1, 3), 0);
    T.none(30, "no size", c, c.mend(1, 4), 6);
    T.fine(26, "g and h", c, c.knot(1), 192);
    T.fine(29, "h bears it", c, c.bear(1), 1);
  }

  private static void sizes() {
    for (int n = 1; n <= 8; n++) {
      CabinPeace c = Check.people(n);
      for (int p = 1; p < n; p++) { c.must(p - 1, p, true); }
      if (n < 8) {
        c.sizes(128);
        T.fine(30, "one size", c, c.mend(4, 3), 1);
        T.fine(30, "as many as there are people", c, c.mend(4, 4), n);
        T.fine(26, "the first person alone", c, c.knot(4), 1);
      }
      if (n > 1) {
        c.sizes(1);
        T.fine(30, "one size", c, c.mend(4, 3), 1);
        T.fine(30, "as many as there are people", c, c.mend(4, 4), n);
        T.fine(26, "the first two", c, c.knot(4), 3);
      }
    }
    CabinPeace c = Check.people(7);
    c.sizes(2);
    T.fine(30, "1, 3, 5, 7", c, c.mend(4, 3), 4);
    T.fine(30, "1", c, c.mend(4, 4), 1);
    c.sizes(2 | 8 | 32 | 128);
    T.fine(30, "1, 3, 5, 7", c, c.mend(4, 3), 4);
    T.fine(30, "each person", c, c.mend(4, 5), 7);
    T.fine(26, "one alone", c, c.knot(4), 1);
  }

  private static void persons() {
    for (int p = 0; p < 8; p++) {
      int q = (p + 3) % 8;
      CabinPeace c = Check.people(8);
      Check.wish(c, p, "add 3*" + "abcdefgh".charAt(q) + ";");
      Check.wish(c, q, "add 0-2*" + "abcdefgh".charAt(p) + ";");
      T.fine(22, "no peace, whoever else is there", c, c.count(1), 0);
      T.fine(30, "the two", c, c.mend(1, 5), 2);
      T.fine(30, "the lesser", c, c.mend(1, 6), Math.min(p, q));
      T.fine(26, "both", c, c.knot(1), 1 << p | 1 << q);
    }
    CabinPeace c = Check.people(3);
    c.must(0, 1, true);
    c.must(0, 1, false);
    c.must(1, 2, true);
    c.must(1, 2, false);
    T.fine(30, "b alone is in both", c, c.mend(0, 5), 1);
    T.fine(30, "b", c, c.mend(0, 6), 1);
    T.fine(26, "of {ab} and {bc} the lesser", c, c.knot(0), 3);
  }

  private static void greedyOfSeveral() {
    CabinPeace c = Check.people(3);
    for (int p = 0; p < 3; p++) { Check.wish(c, p, "add 1 if size=2;"); }
    T.fine(32, "of three twos the least set: a and b", c, c.greedy(0) * 100 + c.greedy(1) * 10 + c.greedy(2), 1);
    for (int p = 0; p < 3; p++) { Check.wish(c, p, "add 1 if size=2; add 1 if size=2 and a=0;"); }
    T.fine(32, "b and c are worth one more", c, c.greedy(0) * 100 + c.greedy(1) * 10 + c.greedy(2), 11);
    for (int p = 0; p < 3; p++) { Check.wish(c, p, "add 0-1000*1000;"); }
    T.fine(32, "the least worth of all: the least set", c, c.greedy(0) * 100 + c.greedy(1) * 10 + c.greedy(2), 12);
    for (int p = 0; p < 3; p++) { Check.wish(c, p, "add 9999*9999+size;"); }
    T.fine(32, "worths are cut: the least set", c, c.greedy(0) * 100 + c.greedy(1) * 10 + c.greedy(2), 12);
    c.sizes(254);
    T.none(32, "of two or three; c would be left alone", c, c.greedy(2), 6);
    CabinPeace eight = Check.people(8);
    for (int p = 0; p < 8; p++) { Check.wish(eight, p, "add size;"); }
    for (int p = 0; p < 8; p++) { T.fine(32, "all eight", eight, eight.greedy(p), 0); }
    eight.sizes(1);
    for (int p = 0; p < 8; p++) { T.fine(32, "each alone", eight, eight.greedy(p), p); }
    eight.sizes(8);
    for (int p = 0; p < 8; p++) { T.fine(32, "fours", eight, eight.greedy(p), p / 4); }
    for (int p = 0; p < 8; p++) { Check.wish(eight, p, "add h*g;"); }
    eight.sizes(2);
    for (int p = 0; p < 8; p++) { T.fine(32, "g and h ahead of all, numbered as they come", eight, eight.greedy(p), p / 2); }
  }

  private static void greedyNone() {
    CabinPeace c = Check.people(3);
    c.sizes(2);
    for (int p = 0; p < 3; p++) { T.none(32, "one is left", c, c.greedy(p), 6); }
    c.sizes(8);
    T.none(32, "no group at all", c, c.greedy(0), 6);
    c.sizes(2 | 4);
    // The greatest first, even if that leaves one alone, where all three would have been a parting.
    for (int p = 0; p < 3; p++) { Check.wish(c, p, "add 1 if size=2;"); }
    T.none(32, "one is left", c, c.greedy(0), 6);
    for (int p = 0; p < 3; p++) { Check.wish(c, p, "add 1 if size=3;"); }
    T.fine(32, "all three", c, c.greedy(2), 0);
    Check.wish(c, 1, "add 2 if size=3;");
    T.none(32, "not alike", c, c.greedy(0), 6);
    Check.wish(c, 1, "add 1 if size=3; bar size=3;");
    T.none(32, "one bars it", c, c.greedy(0), 6);
    Check.wish(c, 1, "add 1 if size=3; bar size=1;");
    T.fine(32, "one alone is not lawful, its bar does not matter", c, c.greedy(1), 0);
    T.none(32, "nobody", c, c.greedy(3), 1);
  }
}
