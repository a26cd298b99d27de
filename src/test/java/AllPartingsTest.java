/** Promises 22 to 32. */
public final class AllPartingsTest {
  private static final Check T = new Check("AllPartingsTest");

  public static void main(String[] args) {
    count();
    countByKind();
    best();
    bestRefused();
    together();
    knot();
    near();
    bear();
    bearBySayingNo();
    mendWords();
    mendSizesAndPeople();
    mendAtTheEdges();
    sort();
    greedy();
    T.end();
  }

  private static void count() {
    int[] bell = {1, 1, 2, 5, 15, 52, 203, 877, 4140};
    for (int n = 0; n <= 8; n++) {
      CabinPeace c = Check.people(n);
      for (int kind = -1; kind < 6; kind++) { T.fine(22, "all partings of " + n, c, c.count(kind), bell[n]); }
      T.none(22, "kind -2", c, c.count(-2), 1);
      T.none(22, "kind 6", c, c.count(6), 1);
    }
    CabinPeace c = Check.people(8);
    c.sizes(2);
    T.fine(22, "eight in twos", c, c.count(-1), 105);
    c.sizes(8);
    T.fine(22, "eight in fours", c, c.count(-1), 35);
    c.sizes(128);
    T.fine(22, "all eight", c, c.count(4), 1);
    c.sizes(16);
    T.fine(22, "eight in fives", c, c.count(4), 0);
    c.sizes(3);
    T.fine(22, "in ones and twos", c, c.count(-1), 764);
    c.must(0, 1, true);
    T.fine(22, "a with b", c, c.count(-1), 76);
    c.must(2, 3, false);
    T.fine(22, "c not with d", c, c.count(-1), 66);
  }

  private static void countByKind() {
    CabinPeace c = Check.chase();
    int[] want = {4, 0, 0, 3, 0, 4};
    for (int kind = 0; kind < 6; kind++) { T.fine(22, "the chase, kind " + kind, c, c.count(kind), want[kind]); }
    T.fine(22, "all", c, c.count(-1), 4);
    c = Check.unhappy();
    int[] sad = {1, 0, 1, 2, 1, 2};
    for (int kind = 0; kind < 6; kind++) { T.fine(22, "the unhappy, kind " + kind, c, c.count(kind), sad[kind]); }
  }

  private static CabinPeace uneven() {
    CabinPeace c = Check.people(3);
    Check.wish(c, 0, "add 9*b if size=2; add 1 if size=1;");
    Check.wish(c, 1, "add 0-2 if size=2; add 1 if size=1;");
    Check.wish(c, 2, "add 1 if size=1;");
    return c;
  }

  private static int rooms(CabinPeace c, int kind, int what) {
    return 100 * c.room(kind, what, 0) + 10 * c.room(kind, what, 1) + c.room(kind, what, 2);
  }

  private static void best() {
    CabinPeace c = uneven();
    T.fine(23, "the first", c, rooms(c, 5, 0), 0);
    T.fine(23, "the greatest sum", c, rooms(c, 5, 1), 1);
    T.fine(23, "the greatest least", c, rooms(c, 5, 2), 12);
    T.fine(24, "the sum", c, c.sum(5, 1), 8);
    T.fine(24, "the least", c, c.sum(5, 2), 1);
    Check.wish(c, 1, "bar size=2; add 1 if size=1;");
    T.fine(24, "a barred one counts", c, c.sum(5, 1), 3);
    T.fine(23, "so another one is best", c, rooms(c, 5, 1), 12);
    c.must(0, 1, true);
    c.must(0, 2, false);
    T.fine(24, "the sum of the one there is", c, c.sum(5, 1), 10 - 1000000);
    T.fine(24, "the least", c, c.sum(5, 2), -1000000);
    c = Check.people(3);
    T.fine(23, "of several the first, by sum", c, rooms(c, 4, 1), 0);
    T.fine(23, "of several the first, by least", c, rooms(c, 4, 2), 0);
    Check.wish(c, 0, "add 0-1;");
    T.fine(24, "a -1 that is no NONE", c, c.sum(4, 1), -1);
    T.fine(24, "a -1 that is no NONE", c, c.sum(4, 2), -1);
    c = new CabinPeace();
    T.fine(24, "the sum without people", c, c.sum(0, 1), 0);
    T.fine(24, "the least without people", c, c.sum(0, 2), 0);
  }

  private static void bestRefused() {
    CabinPeace c = Check.chase();
    T.none(23, "kind -1", c, c.room(-1, 0, 0), 1);
    T.none(23, "kind 6", c, c.room(6, 0, 0), 1);
    T.none(23, "what -1", c, c.room(4, -1, 0), 1);
    T.none(23, "what 3", c, c.room(4, 3, 0), 1);
    T.none(23, "person 3", c, c.room(4, 0, 3), 1);
    T.none(23, "person -1", c, c.room(4, 0, -1), 1);
    T.none(23, "no peace", c, c.room(4, 0, 0), 6);
    T.none(23, "no peace", c, c.room(4, 2, 2), 6);
    T.none(24, "kind -1", c, c.sum(-1, 1), 1);
    T.none(24, "kind 6", c, c.sum(6, 1), 1);
    T.none(24, "what 0", c, c.sum(3, 0), 1);
    T.none(24, "what 3", c, c.sum(3, 3), 1);
    T.none(24, "no peace", c, c.sum(4, 1), 6);
    T.none(24, "no peace", c, c.sum(1, 2), 6);
    T.fine(24, "peace of kind 3", c, c.sum(3, 1), 3);
    T.fine(23, "peace of kind 3", c, rooms(c, 3, 0), 1);
  }

  private static void together() {
    CabinPeace c = Check.chase();
    T.fine(25, "a and b, kind 0", c, c.together(0, 0, 1), 1);
    T.fine(25, "a and c, kind 3", c, c.together(3, 2, 0), 1);
    T.fine(25, "no peace", c, c.together(4, 0, 1), 0);
    T.none(25, "one alone", c, c.together(4, 1, 1), 1);
    T.none(25, "kind -1", c, c.together(-1, 0, 1), 1);
    T.none(25, "kind 6", c, c.together(6, 0, 1), 1);
    T.none(25, "person 3", c, c.together(0, 0, 3), 1);
    T.none(25, "person -1", c, c.together(0, -1, 0), 1);
    c = Check.people(4);
    T.fine(25, "two of four", c, c.together(4, 1, 3), 5);
    c.must(1, 3, true);
    T.fine(25, "in all", c, c.together(4, 1, 3), 5);
    T.fine(25, "in some", c, c.together(4, 1, 0), 2);
    c.must(0, 1, false);
    T.fine(25, "in none", c, c.together(4, 3, 0), 0);
  }

  private static void knot() {
    CabinPeace c = Check.chase();
    T.fine(26, "all three", c, c.knot(4), 7);
    T.none(26, "there is peace", c, c.knot(3), 6);
    T.none(26, "kind -1", c, c.knot(-1), 1);
    T.none(26, "kind 6", c, c.knot(6), 1);
    c.person(4, 0);
    T.fine(26, "one more does not count", c, c.knot(4), 7);
    c = Check.people(4);
    c.must(1, 3, true);
    c.must(1, 3, false);
    T.fine(26, "b and d", c, c.knot(0), 10);
    c.must(0, 2, true);
    c.must(0, 2, false);
    T.fine(26, "of several the least set", c, c.knot(0), 5);
    c = Check.people(3);
    c.sizes(2);
    T.fine(26, "one alone is not lawful", c, c.knot(5), 1);
    c = new CabinPeace();
    T.none(26, "nobody has peace", c, c.knot(4), 6);
    c = Check.people(4);
    c.sizes(3);
    Check.wish(c, 3, "add 2*b; add c;");
    Check.wish(c, 1, "add 2*c; add d;");
    Check.wish(c, 2, "add 2*d; add b;");
    T.fine(26, "b, c and d", c, c.knot(4), 14);
    T.none(26, "of kind 0 there is peace", c, c.knot(0), 6);
  }

  private static void near() {
    CabinPeace c = Check.chase();
    T.fine(27, "one break", c, c.near(4), 1);
    T.fine(28, "a", c, c.nearRoom(4, 0), 0);
    T.fine(28, "b", c, c.nearRoom(4, 1), 0);
    T.fine(28, "c", c, c.nearRoom(4, 2), 1);
    T.fine(27, "peace", c, c.near(0), 0);
    T.fine(28, "peace", c, c.nearRoom(3, 2), 1);
    T.none(27, "kind -1", c, c.near(-1), 1);
    T.none(27, "kind 6", c, c.near(6), 1);
    T.none(28, "kind -1", c, c.nearRoom(-1, 0), 1);
    T.none(28, "person 3", c, c.nearRoom(4, 3), 1);
    T.none(28, "person -1", c, c.nearRoom(4, -1), 1);
    c.must(0, 1, false);
    T.fine(27, "another wish, another one", c, c.near(4), 0);
    T.fine(28, "b is with c", c, c.nearRoom(4, 1) * 10 + c.nearRoom(4, 2), 10);
    c.must(0, 1, true);
    T.none(27, "no partings", c, c.near(4), 6);
    T.none(28, "no partings", c, c.nearRoom(4, 0), 6);
    c = new CabinPeace();
    T.fine(27, "nobody", c, c.near(4), 0);
  }

  private static void bear() {
    CabinPeace c = Check.chase();
    T.fine(29, "one more", c, c.bear(4), 1);
    T.fine(29, "one more", c, c.bear(1), 1);
    T.fine(29, "nothing", c, c.bear(3), 0);
    T.none(29, "kind -1", c, c.bear(-1), 1);
    T.none(29, "kind 6", c, c.bear(6), 1);
    Check.wish(c, 0, "add 20*b; add 10*c;");
    Check.wish(c, 1, "add 25*c; add 10*a;");
    Check.wish(c, 2, "add 40*a; add 12*b;");
    T.fine(29, "{ab}{c}: b 15, c 12; {ac}{b}: a 10, b 10; {bc}{a}: a 10, c 28", c, c.bear(4), 10);
    T.fine(29, "moves: 15, 10, 28", c, c.bear(1), 10);
    Check.wish(c, 0, "add 30*b; add 11*c;");
    T.fine(29, "{ab}{c}: 12; {ac}{b}: a 19, b 10; {bc}{a}: a 11, c 28", c, c.bear(4), 10);
    T.fine(29, "moves: 15, 19, 28", c, c.bear(1), 15);
    Check.wish(c, 0, "add 16*b; add 11*c;");
    T.fine(29, "{ab}{c}: 12; {ac}{b}: a 5, b 10; {bc}{a}: a 11, c 28", c, c.bear(4), 5);
    c = Check.unhappy();
    T.none(29, "from a barred one: as ever", c, c.bear(1), 6);
    c.must(0, 1, true);
    c.must(0, 1, false);
    T.none(29, "no partings", c, c.bear(0), 6);
    c = new CabinPeace();
    T.fine(29, "nobody", c, c.bear(4), 0);
  }

  /** Whoever says no does so however little it is about. */
  private static void bearBySayingNo() {
    CabinPeace c = Check.people(2);
    Check.wish(c, 0, "add 50*b;");
    Check.wish(c, 1, "add 0-1*a;");
    T.fine(29, "{ab}: b 1; {a}{b}: a 50", c, c.bear(1), 1);
    T.fine(29, "b says no", c, c.bear(2), 0);
    c.sizes(2);
    T.fine(29, "they must", c, c.bear(1), 0);
    c = Check.people(3);
    c.sizes(3);
    Check.wish(c, 0, "add 9*b; add 5*c;");
    Check.wish(c, 1, "add 9*c; add 5*a;");
    Check.wish(c, 2, "add 9*a; add 5*b;");
    T.fine(29, "asked, c does not mind", c, c.bear(2), 4);
    Check.wish(c, 2, "add 9*a; add 0-1*b;");
    T.fine(29, "c minds b, so {ab} has peace", c, c.bear(2), 0);
    T.fine(29, "but not of kind 1", c, c.bear(1), 4);
  }

  private static void mendWords() {
    CabinPeace c = Check.chase();
    T.fine(30, "each saying", c, c.mend(4, 0), 6);
    T.fine(30, "the first is of", c, c.mend(4, 1), 0);
    T.fine(30, "its number", c, c.mend(4, 2), 0);
    Check.wish(c, 0, "add 0; add 2*b; add c;");
    T.fine(30, "but not a nothing", c, c.mend(4, 0), 6);
    T.fine(30, "the first is of", c, c.mend(4, 1), 0);
    T.fine(30, "its number", c, c.mend(4, 2), 1);
    Check.wish(c, 0, "add b; add b; add 1 if c=1; add 1 if b=1 and c=0; add 0-1 if b=1 and c=0;");
    T.fine(30, "wishes change nothing by trying", c, c.mend(4, 0) + c.mend(4, 0), 2 * c.mend(4, 0));
    T.fine(30, "worth as before", c, c.worth(0, 3), 2);
    T.none(30, "there is peace", c, c.mend(3, 0), 6);
    T.none(30, "there is peace", c, c.mend(3, 6), 6);
    T.none(30, "kind -1", c, c.mend(-1, 0), 1);
    T.none(30, "kind 6", c, c.mend(6, 0), 1);
    T.none(30, "what -1", c, c.mend(4, -1), 1);
    T.none(30, "what 7", c, c.mend(4, 7), 1);
    T.none(30, "1 ahead of 6", c, c.mend(3, 7), 1);
    c = Check.unhappy();
    T.fine(30, "each bar", c, c.mend(1, 0), 2);
    T.fine(30, "b goes: a is content; a goes: b bars it, but has no way", c, c.mend(1, 5), 2);
    T.fine(30, "the first", c, c.mend(1, 6), 0);
  }

  private static void mendSizesAndPeople() {
    CabinPeace c = Check.chase();
    T.fine(30, "one size", c, c.mend(4, 3), 1);
    T.fine(30, "three", c, c.mend(4, 4), 3);
    T.fine(30, "each person", c, c.mend(4, 5), 3);
    T.fine(30, "the first", c, c.mend(4, 6), 0);
    c = Check.people(4);
    c.must(1, 2, true);
    c.must(1, 2, false);
    T.fine(30, "no word", c, c.mend(0, 0), 0);
    T.none(30, "no word", c, c.mend(0, 1), 6);
    T.none(30, "no word", c, c.mend(0, 2), 6);
    T.fine(30, "no size", c, c.mend(0, 3), 0);
    T.none(30, "no size", c, c.mend(0, 4), 6);
    T.fine(30, "two persons", c, c.mend(0, 5), 2);
    T.fine(30, "the first", c, c.mend(0, 6), 1);
    c.must(0, 3, true);
    c.must(0, 3, false);
    T.fine(30, "no person", c, c.mend(0, 5), 0);
    T.none(30, "no person", c, c.mend(0, 6), 6);
    c = Check.people(5);
    c.sizes(2);
    T.fine(30, "1, 3, 5", c, c.mend(4, 3), 3);
    T.fine(30, "1", c, c.mend(4, 4), 1);
    c.must(0, 1, true);
    c.must(2, 3, true);
    c.must(3, 4, true);
    T.fine(30, "3, 5", c, c.mend(4, 3), 2);
    T.fine(30, "3", c, c.mend(4, 4), 3);
    T.fine(30, "c, d, e", c, c.mend(4, 5), 3);
    T.fine(30, "c", c, c.mend(4, 6), 2);
  }

  /** All eight places taken, and all twelve sayings of the last one. */
  private static void mendAtTheEdges() {
    CabinPeace c = Check.people(5);
    c.sizes(3);
    c.person(6, 0);
    c.person(7, 0);
    c.person(8, 0);
    Check.wish(c, 5, "add 2*g; add h;");
    Check.wish(c, 6, "add 2*h; add f;");
    Check.wish(c, 7, "add 0;".repeat(10) + "add 2*f; add g;");
    for (int p = 0; p < 5; p++) {
      for (int q = 5; q < 8 && p < 4; q++) { c.must(p, q, false); }
    }
    Check.wish(c, 4, "bar size=2;");
    T.fine(30, "the two last of h, and those of f and g; not the bar of e", c, c.mend(4, 0), 6);
    T.fine(30, "the first is of f", c, c.mend(4, 1) * 10 + c.mend(4, 2), 50);
    T.fine(30, "f, g or h", c, c.mend(4, 5), 3);
    T.fine(30, "f", c, c.mend(4, 6), 5);
    T.fine(30, "groups of three, of four", c, c.mend(4, 4), 3);
    T.fine(26, "f, g and h", c, c.knot(4), 224);
  }

  private static void sort() {
    CabinPeace c = Check.people(3);
    T.none(31, "sort -1", c, c.sort(-1), 1);
    T.none(31, "sort 2", c, c.sort(2), 1);
    T.fine(31, "no wishes", c, c.sort(0), 1);
    T.fine(31, "no wishes", c, c.sort(1), 1);
    Check.wish(c, 0, "add 3*b;");
    T.fine(31, "a alone likes", c, c.sort(0), 0);
    T.fine(31, "a alone likes", c, c.sort(1), 0);
    Check.wish(c, 1, "add 3*a;");
    T.fine(31, "friends", c, c.sort(1), 1);
    T.fine(31, "but c has nothing of it", c, c.sort(0), 0);
    c.sizes(3);
    T.fine(31, "of three there are none", c, c.sort(0), 1);
    T.fine(31, "all groups count", c, c.sort(1), 1);
    Check.wish(c, 2, "add 1 if size=3;");
    T.fine(31, "lawful or not", c, c.sort(1), 0);
    T.fine(31, "lawful ones alone", c, c.sort(0), 1);
    Check.wish(c, 2, "add 1 if size=1;");
    T.fine(31, "one alone is worth 0", c, c.sort(1), 0);
    T.fine(31, "one alone is like itself", c, c.sort(0), 1);
    Check.wish(c, 2, "bar b=1 and a=0;");
    T.fine(31, "a bar", c, c.sort(0), 0);
    T.fine(31, "a bar", c, c.sort(1), 0);
    Check.wish(c, 2, "bar size=3;");
    T.fine(31, "a bar of a group that is not lawful", c, c.sort(0), 1);
    T.fine(31, "a bar of any group", c, c.sort(1), 0);
    Check.wish(c, 2, "add 0-4*a-4*b;");
    Check.wish(c, 0, "add 3*b-4*c;");
    Check.wish(c, 1, "add 3*a-4*c;");
    T.fine(31, "friends and foes", c, c.sort(1), 1);
    Check.wish(c, 1, "add 3*a-5*c;");
    T.fine(31, "a two that is unlike", c, c.sort(1), 0);
    c = new CabinPeace();
    T.fine(31, "nobody", c, c.sort(0) + c.sort(1), 2);
  }

  private static int greedyRooms(CabinPeace c) {
    return 1000 * c.greedy(0) + 100 * c.greedy(1) + 10 * c.greedy(2) + c.greedy(3);
  }

  private static void greedy() {
    CabinPeace c = Check.people(4);
    T.none(32, "person 4", c, c.greedy(4), 1);
    T.none(32, "person -1", c, c.greedy(-1), 1);
    T.fine(32, "of several the least set", c, greedyRooms(c), 123);
    c.sizes(2);
    T.fine(32, "in twos", c, greedyRooms(c), 11);
    c.sizes(255);
    for (int p = 0; p < 4; p++) { Check.wish(c, p, "add 4*b*c+5*a*d if size=2;"); }
    T.fine(32, "a and d, b and c", c, greedyRooms(c), 110);
    for (int p = 0; p < 4; p++) { Check.wish(c, p, "add 5*b*c+4*a*b+4*c*d if size=2; add 0-1;"); }
    T.fine(32, "b and c; the others alone", c, greedyRooms(c), 112);
    c.sizes(2 | 4);
    T.fine(32, "b and c; then a and d, whatever it is worth", c, greedyRooms(c), 110);
    c.sizes(1 | 4);
    T.fine(32, "each -1: the least set", c, greedyRooms(c), 123);
    c.sizes(4);
    T.none(32, "one is left", c, c.greedy(0), 6);
    c.sizes(255);
    Check.wish(c, 0, "add 1 if size=4;");
    T.none(32, "not alike", c, c.greedy(0), 6);
    c.sizes(1);
    T.fine(32, "alike in what is lawful", c, greedyRooms(c), 123);
    c = Check.people(4);
    for (int p = 0; p < 4; p++) { Check.wish(c, p, "add b*d;"); }
    T.fine(32, "b and d (of several the least) ahead of a", c, greedyRooms(c), 121);
    c.must(3, 0, true);
    T.fine(32, "d takes a along", c, greedyRooms(c), 10);
  }
}
