/** What a text is worth: cuts, numbers of 64 bits, tests, bars, RATHER, and the SORTS of wishes, at their limits. */
public final class EdgesOfWorthsTest {
  private static final Check T = new Check("EdgesOfWorthsTest");

  public static void main(String[] args) {
    cuts();
    cutTogether();
    roundOn();
    compares();
    joins();
    ofWhoIsThere();
    namesOfPeople();
    barsAndWorth();
    ratherByOne();
    ratherOfCutWorths();
    faultForgotten();
    alikeByEach();
    friendsByEach();
    friendsOfCutWorths();
    T.end();
  }

  private static void worthOf(String text, int want) {
    CabinPeace c = Check.people(3);
    T.due(11, text, Check.wish(c, 0, text) > 0, true);
    T.fine(13, "worth() of " + text, c, c.worth(0, 7), want);
  }

  private static void cuts() {
    worthOf("add 1000*1000-2;", 999998);
    worthOf("add 1000*1000-1;", 999999);
    worthOf("add 1000*1000;", 1000000);
    worthOf("add 1000*1000+1;", 1000000);
    worthOf("add 0-1000*1000+1;", -999999);
    worthOf("add 0-1000*1000;", -1000000);
    worthOf("add 0-1000*1000-1;", -1000000);
    worthOf("add 9999*9999*9999;", 1000000);
    worthOf("add 0-9999*9999*9999;", -1000000);
    // 2^31 and 2^32 are cut as the great numbers they are.
    worthOf("add 8192*8192*32;", 1000000);
    worthOf("add 8192*8192*64;", 1000000);
    worthOf("add 8192*8192*64+5;", 1000000);
    worthOf("add 0-8192*8192*32-1;", -1000000);
  }

  /** What all add together is cut, not what each adds; those whose test does not hold add nothing. */
  private static void cutTogether() {
    worthOf("add 1000*1000; add 1000*1000; add 0-1000*1000;", 1000000);
    worthOf("add 1000*1000; add 1000*1000; add 0-1000*1000-1;", 999999);
    worthOf("add 0-9999*9999; add 9999*9999; add 3;", 3);
    worthOf("add 9999*9999 if size=2; add 4;", 4);
    worthOf("add 9999*9999 if size=3; add 0-9999*9999 if size=3; add 4;", 4);
    // In tests and in sums nothing is cut.
    worthOf("add 1 if 1000*1000+1>1000*1000;", 1);
    worthOf("add 1000*1000+7-1000*1000;", 7);
  }

  /** 8192 is 2^13: five of them are 2^65, which is 0; with 2048 in place of one 2^63, the least number. */
  private static void roundOn() {
    String least = "8192*8192*8192*8192*2048";
    worthOf("add 8192*8192*8192*8192*4096;", 0);
    worthOf("add 8192*8192*8192*8192*4096+9;", 9);
    worthOf("add " + least + ";", -1000000);
    worthOf("add " + least + "-1;", 1000000);
    worthOf("add 0-" + least + ";", -1000000);
    worthOf("add " + least + "+" + least + "+6;", 6);
    worthOf("add " + least + "; add " + least + "; add 2;", 2);
    worthOf("add " + least + "; add 0-1;", 1000000);
    worthOf("add 1 if " + least + "<0; add 2 if " + least + "-1>0; add 4 if " + least + "=0-" + least + ";", 7);
    worthOf("add 1 if 0-" + least + "<0; add 2 if " + least + "<" + least + "-1;", 3);
    worthOf("add 1 if 8192*8192*8192*8192*1024>0; add 2 if 8192*8192*8192*8192*1024*2<0;", 3);
    // A saying left out is taken from the whole sum, however often that went round.
    CabinPeace c = Check.people(2);
    Check.wish(c, 0, "add " + least + " if b=1; add " + least + " if b=1; add 5 if b=1; add 3 if size=1;");
    T.fine(13, "with b", c, c.worth(0, 3), 5);
    T.fine(33, "without the one it is with b the worst: it is alone for 3", c, c.gain(4, 0, 0), -2);
    T.fine(33, "without the 3 it is with b", c, c.gain(4, 0, 3), 0);
  }

  private static void compares() {
    int[][] pairs = {{1, 2}, {2, 2}, {3, 2}, {0, 0}, {9999, 9998}};
    for (int[] p : pairs) {
      String a = String.valueOf(p[0]);
      String b = String.valueOf(p[1]);
      worthOf("add 1;add 1 if " + a + "<" + b + ";", p[0] < p[1] ? 2 : 1);
      worthOf("add 1;add 1 if " + a + ">" + b + ";", p[0] > p[1] ? 2 : 1);
      worthOf("add 1;add 1 if " + a + "=" + b + ";", p[0] == p[1] ? 2 : 1);
      worthOf("add 1;add 1 if not " + a + "<" + b + ";", p[0] < p[1] ? 1 : 2);
      worthOf("add 1;add 1 if not " + a + ">" + b + ";", p[0] > p[1] ? 1 : 2);
      worthOf("add 1;add 1 if not " + a + "=" + b + ";", p[0] == p[1] ? 1 : 2);
    }
    worthOf("add 1;add 1 if 0-1<0;", 2);
    worthOf("add 1;add 1 if 0-1>0-2;", 2);
    worthOf("add 1;add 1 if 0-1=1-2;", 2);
  }

  /** All tests of three ones that hold or do not: and binds closer than or, not closer than both. */
  private static void joins() {
    String[] yes = {"2>1", "1<2", "not 1>2", "1=1", "not 2<1"};
    String[] no = {"1>2", "2<1", "not 2>1", "1=2", "not 1=1"};
    for (int bits = 0; bits < 8; bits++) {
      for (int turn = 0; turn < 5; turn++) {
        boolean x = (bits & 1) != 0;
        boolean y = (bits & 2) != 0;
        boolean z = (bits & 4) != 0;
        String a = (x ? yes : no)[turn];
        String b = (y ? yes : no)[(turn + 1) % 5];
        String d = (z ? yes : no)[(turn + 3) % 5];
        worthOf("add 1;add 1 if " + a + " and " + b + " and " + d + ";", x && y && z ? 2 : 1);
        worthOf("add 1;add 1 if " + a + " or " + b + " or " + d + ";", x || y || z ? 2 : 1);
        worthOf("add 1;add 1 if " + a + " or " + b + " and " + d + ";", x || y && z ? 2 : 1);
        worthOf("add 1;add 1 if " + a + " and " + b + " or " + d + ";", x && y || z ? 2 : 1);
        worthOf("add 1;add 1 if " + a + " and not 1=2 or " + b + " and " + d + ";", x || y && z ? 2 : 1);
        worthOf("add 1;add 1 if " + a + " or " + b + " or " + d + " and 1=1 or 1=2;", x || y || z ? 2 : 1);
      }
    }
  }

  private static void ofWhoIsThere() {
    CabinPeace c = new CabinPeace();
    for (int p = 0; p < 8; p++) { c.person(p + 1, 1); }
    for (int p = 0; p < 8; p++) {
      Check.wish(c, p, "add size*10+kin;");
      for (int more = 0; more < 8; more++) {
        int group = 1 << p;
        for (int q = 0; q < more; q++) { group |= 1 << (p + q + 1) % 8; }
        T.fine(13, "a group of " + (more + 1), c, c.worth(p, group), (more + 1) * 10 + more);
      }
    }
  }

  /** A name is 1 or 0, its own is 1. */
  private static void namesOfPeople() {
    CabinPeace c = Check.people(8);
    for (int p = 0; p < 8; p++) {
      Check.wish(c, p, "add a+2*b+4*c+8*d+16*e+32*f+64*g+128*h;");
      for (int group = 1 << p; group < 256; group += 29) {
        int with = group | 1 << p;
        T.fine(13, "the sum of names is the group", c, c.worth(p, with), with);
      }
    }
  }

  private static void barsAndWorth() {
    CabinPeace c = Check.people(2);
    Check.wish(c, 0, "bar 1=2; bar 1=1 and size=2; bar 2=3; add 6;");
    T.fine(14, "some bar holds", c, c.bars(0, 3), 1);
    T.fine(14, "none holds", c, c.bars(0, 1), 0);
    T.fine(13, "barred or not", c, c.worth(0, 3), 6);
    T.fine(13, "barred or not", c, c.worth(0, 1), 6);
    Check.wish(c, 1, "add 1;".repeat(11) + "bar size=2;");
    T.fine(14, "by the twelfth saying", c, c.bars(1, 3), 1);
    T.fine(13, "eleven", c, c.worth(1, 3), 11);
    T.fine(14, "nor by another one's", c, c.bars(0, 1), 0);
    Check.wish(c, 1, "");
    T.fine(14, "without any wish none is barred", c, c.bars(1, 3), 0);
  }

  private static CabinPeace hates(String text) {
    CabinPeace c = Check.people(3);
    Check.wish(c, 0, text);
    return c;
  }

  private static void ratherByOne() {
    CabinPeace c = hates("add 5*b; add 5*c if b=0;");
    T.fine(15, "as much", c, c.rather(0, 3, 5), 0);
    T.fine(15, "as much", c, c.rather(0, 5, 3), 0);
    c = hates("add 5*b; add 6*c if b=0;");
    T.fine(15, "one less", c, c.rather(0, 3, 5), 0);
    T.fine(15, "one more", c, c.rather(0, 5, 3), 1);
    c = hates("bar c=1; add 0-1000*1000;");
    T.fine(15, "the least worth is more than a barred one", c, c.rather(0, 3, 5), 1);
    T.fine(15, "a barred one is less than the least worth", c, c.rather(0, 5, 3), 0);
    c = hates("bar c=1; add 0-1000*1000 if b=1 and c=0; add 1000*1000 if c=1;");
    T.fine(15, "whatever a barred one is worth", c, c.rather(0, 3, 5), 1);
    T.fine(15, "whatever a barred one is worth", c, c.rather(0, 5, 3), 0);
    T.fine(15, "two barred ones", c, c.rather(0, 5, 7), 0);
    T.fine(15, "two barred ones", c, c.rather(0, 7, 5), 0);
    for (int g = 1; g < 8; g += 2) { T.fine(15, "a group than itself", c, c.rather(0, g, g), 0); }
  }

  private static void ratherOfCutWorths() {
    CabinPeace c = hates("add 1000*1000+5 if b=1; add 1000*1000 if c=1 and b=0; add 1000*1000-1 if size=1;");
    T.fine(15, "both are cut to the same", c, c.rather(0, 3, 5), 0);
    T.fine(15, "just below the cut", c, c.rather(0, 5, 1), 1);
    c = hates("add 0-1000*1000-5 if b=1; add 0-1000*1000 if c=1 and b=0; add 1-1000*1000 if size=1;");
    T.fine(15, "both are cut to the same", c, c.rather(0, 5, 3), 0);
    T.fine(15, "just above the cut", c, c.rather(0, 1, 5), 1);
  }

  private static void faultForgotten() {
    CabinPeace c = Check.people(1);
    T.due(12, "ahead of any", c.fault(0), -1);
    T.due(12, "ahead of any", c.fault(1), -1);
    Check.wish(c, 0, "add 1; ~");
    T.due(12, "a fault", c.fault(0) * 100 + c.fault(1), 107);
    c.wish(0, 1);
    T.due(12, "behind one with STATUS 1", c.fault(0) * 100 + c.fault(1), 107);
    for (int what : new int[] {Integer.MIN_VALUE, -1, 2, 3, Integer.MAX_VALUE}) { T.due(12, "others", c.fault(what), -1); }
    T.fine(11, "a fine one", c, Check.wish(c, 0, "add 1;"), 1);
    T.due(12, "without a fault", c.fault(0), 0);
    T.due(12, "without a place", c.fault(1), -1);
    Check.wish(c, 0, "~");
    T.due(12, "a fault at 0", c.fault(0) * 100 + c.fault(1), 100);
    T.fine(11, "an empty one", c, c.wish(0, 0), 0);
    T.due(12, "without a fault", c.fault(0), 0);
    T.due(12, "without a place", c.fault(1), -1);
  }

  /** Each one of three, in each of its groups, can spoil it. */
  private static void alikeByEach() {
    for (int p = 0; p < 3; p++) {
      for (int group = 1; group < 8; group++) {
        if ((group >> p & 1) == 0) { continue; }
        String there = "a=" + (group & 1) + " and b=" + (group >> 1 & 1) + " and c=" + (group >> 2 & 1) + ";";
        for (int lawful = 0; lawful < 2; lawful++) {
          CabinPeace c = Check.people(3);
          Check.wish(c, p, "bar " + there);
          if (lawful == 0) { c.sizes(255 ^ 1 << Integer.bitCount(group) - 1); }
          T.fine(31, "a bar of " + p + " for " + group, c, c.sort(0), 1 - lawful);
          T.fine(31, "friends bar nothing", c, c.sort(1), 0);
          Check.wish(c, p, "add 1 if " + there);
          boolean alone = group == 1 << p;
          T.fine(31, "a worth of " + p + " for " + group, c, c.sort(0), lawful == 0 || alone ? 1 : 0);
          T.fine(31, "friends do not like alone, nor otherwise", c, c.sort(1), 0);
        }
      }
    }
  }

  private static void friendsByEach() {
    // Four friends of unlike strength: the worth of a two is the product of both numbers.
    int[] strength = {2, 3, 5, 7};
    for (int odd = -1; odd < 4; odd++) {
      CabinPeace c = Check.people(4);
      for (int p = 0; p < 4; p++) {
        StringBuilder b = new StringBuilder("add 0");
        for (int q = 0; q < 4; q++) {
          if (q != p) { b.append('+').append(strength[p] * strength[q]).append('*').append("abcd".charAt(q)); }
        }
        if (p == odd) { b.append("+1*a*b*c*d"); }
        Check.wish(c, p, b.append(';').toString());
      }
      T.fine(31, "all four together are off by one for " + odd, c, c.sort(1), odd < 0 ? 1 : 0);
      c.sizes(7);
      T.fine(31, "lawful or not", c, c.sort(1), odd < 0 ? 1 : 0);
    }
    CabinPeace c = Check.people(1);
    T.fine(31, "one alone", c, c.sort(1), 1);
    Check.wish(c, 0, "add 1;");
    T.fine(31, "one alone is worth 0", c, c.sort(1), 0);
    T.fine(31, "one alone is like itself", c, c.sort(0), 1);
    c = new CabinPeace();
    T.fine(31, "nobody", c, c.sort(0), 1);
    T.fine(31, "nobody", c, c.sort(1), 1);
    c = Check.people(2);
    c.must(0, 1, true);
    c.must(0, 1, false);
    Check.wish(c, 0, "add 3 if size=2;");
    T.fine(31, "no group is lawful", c, c.sort(0), 1);
    T.fine(31, "all groups count", c, c.sort(1), 0);
  }

  /** Twos of 600,000 each; the three together are cut, the twos together are not. */
  private static void friendsOfCutWorths() {
    CabinPeace c = Check.people(3);
    Check.wish(c, 0, "add 1000*600*(b+c);");
    Check.wish(c, 1, "add 1000*600*(a+c);");
    Check.wish(c, 2, "add 1000*600*(a+b);");
    T.fine(13, "cut", c, c.worth(0, 7), 1000000);
    T.fine(31, "1,200,000 is not 1,000,000", c, c.sort(1), 0);
    Check.wish(c, 0, "add 1000*500*(b+c);");
    Check.wish(c, 1, "add 1000*500*(a+c);");
    Check.wish(c, 2, "add 1000*500*(a+b);");
    T.fine(31, "1,000,000 is", c, c.sort(1), 1);
    T.fine(31, "alike, too", c, c.sort(0), 1);
    Check.wish(c, 0, "add 1000*500*(b+c)+a*b*c;");
    T.fine(31, "1,000,001 is cut to it", c, c.sort(1), 1);
    Check.wish(c, 0, "add 1000*500*(b+c)-a*b*c;");
    T.fine(31, "999,999 is not", c, c.sort(1), 0);
  }
}
