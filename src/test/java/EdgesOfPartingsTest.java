/** PARTINGS told and BREAKS (part 2 of the terms), at each limit, just below it and just beyond it. */
public final class EdgesOfPartingsTest {
  private static final Check T = new Check("EdgesOfPartingsTest");

  public static void main(String[] args) {
    numbersTold();
    howManyNumbers();
    sortsOfTrays();
    likeNumbers();
    notLawful();
    byWorthOne();
    fromBarred();
    whatIsLeft();
    whereItGoes();
    aloneOrNot();
    whoSaysNo();
    whoIsLeft();
    orderOfMoves();
    cores();
    coresBeyond64();
    coreLeavesLawful();
    swaps();
    swapsLeaveLawful();
    stepsRenumber();
    orderOfPartings();
    T.end();
  }

  private static void numbersTold() {
    for (int p = 0; p < 8; p++) {
      for (int number = -2; number <= 10; number++) {
        CabinPeace c = Check.people(8);
        c.tray(3, 2, 8);
        c.write(3, p, number);
        boolean can = number >= 0 && number <= 7;
        T.due(17, "number " + number + " for person " + p, c.breaks(3, 4), can ? 0 : -1);
        T.due(17, "its status", c.status(), can ? 0 : 1);
        T.due(20, "a run from it", c.run(3, 4, 1), can ? 0 : -1);
        T.due(20, "its status", c.status(), can ? 0 : 1);
        T.fine(20, "numbered anew, or as it was", c, c.read(3, p), !can ? number : number == 0 || p == 0 ? 0 : 1);
      }
    }
    // Numbers that are 0 to 7 by their lowest bits alone.
    for (long far : new long[] {8, 16, 256, 1L << 32, 1L << 35, Long.MIN_VALUE, Long.MIN_VALUE + 1, Long.MAX_VALUE, -8}) {
      CabinPeace c = Check.people(2);
      c.tray(0, 3, 2);
      c.write(0, 1, far);
      T.none(17, "far off", c, c.breaks(0, 4), 1);
      T.no(19, "far off", c, c.step(0, 4), 1);
      T.none(36, "far off", c, c.goes(0, 4, 1), 1);
      T.fine(5, "it stays", c, c.read(0, 1), far);
    }
  }

  private static void howManyNumbers() {
    for (int n = 0; n <= 8; n++) {
      for (int many = Math.max(0, n - 1); many <= n + 1; many++) {
        CabinPeace c = Check.people(n);
        c.tray(1, 0, many);
        int why = many < n ? 3 : 0;
        T.due(17, many + " numbers of " + n, c.breaks(1, 4), why == 0 ? 0 : -1);
        T.due(17, "its status", c.status(), why);
        T.due(18, many + " numbers of " + n, c.first(1, 4, 0), -1);
        T.due(18, "its status", c.status(), why == 0 ? 6 : why);
        T.due(19, many + " numbers of " + n, c.step(1, 4), false);
        T.due(19, "its status", c.status(), why == 0 ? 6 : why);
        T.due(20, many + " numbers of " + n, c.run(1, 4, 1), why == 0 ? 0 : -1);
        T.due(20, "its status", c.status(), why);
        if (n > 0) {
          T.due(36, many + " numbers of " + n, c.goes(1, 4, 0), why == 0 ? 0 : -1);
          T.due(36, "its status", c.status(), why);
        }
      }
    }
    CabinPeace c = Check.people(2);
    Check.tell(c, 0, "0199");
    T.fine(17, "the first numbers alone", c, c.breaks(0, 4), 0);
    Check.tell(c, 0, "0919");
    T.none(17, "the first numbers, all of them", c, c.breaks(0, 4), 1);
    c.person(3, 0);
    Check.tell(c, 0, "01");
    T.none(17, "one who comes needs a number", c, c.breaks(0, 4), 3);
    c.tray(0, 0, 60);
    T.fine(17, "sixty numbers", c, c.breaks(0, 4), 0);
  }

  private static void sortsOfTrays() {
    for (int sort = 0; sort < 4; sort++) {
      CabinPeace c = Check.chase();
      c.tray(2, sort, 5);
      for (int i = 0; i < 5; i++) { c.write(2, i, 7 - i); }
      T.fine(17, "three twos", c, c.breaks(2, 4), 3);
      T.yes(19, "a and b", c, c.step(2, 4));
      T.due(19, "the rest stays", Check.told(c, 2, 5), 100143);
      T.fine(36, "c goes", c, c.goes(2, 4, 2), 0);
    }
  }

  private static void likeNumbers() {
    String[] same = {"001", "002", "007", "110", "771", "443"};
    for (String told : same) {
      CabinPeace c = Check.chase();
      Check.tell(c, 0, told);
      T.fine(17, told, c, c.breaks(0, 4), 1);
      T.fine(18, told, c, c.first(0, 4, 0), 6);
      T.fine(18, told + ": to the group of c, without b", c, c.first(0, 1, 1), 4);
      T.yes(19, told, c, c.step(0, 1));
      T.due(19, told, Check.told(c, 0, 3), 1011);
    }
    CabinPeace c = Check.people(8);
    Check.tell(c, 0, "76543210");
    T.fine(20, "eight numbers", c, c.run(0, 5, 1), 0);
    T.due(20, "numbered as they come", Check.told(c, 0, 8), 101234567);
    Check.tell(c, 0, "72747276");
    T.fine(20, "four numbers", c, c.run(0, 5, 1), 0);
    T.due(20, "numbered as they come", Check.told(c, 0, 8), 101020103);
  }

  private static void notLawful() {
    CabinPeace c = Check.people(3);
    Check.tell(c, 0, "001");
    c.sizes(2);
    T.none(17, "one alone", c, c.breaks(0, 0), 1);
    c.sizes(1);
    T.none(17, "two", c, c.breaks(0, 0), 1);
    c.sizes(3);
    T.fine(17, "lawful", c, c.breaks(0, 0), 0);
    c.must(0, 2, false);
    T.fine(17, "a and c are apart as they must", c, c.breaks(0, 0), 0);
    Check.tell(c, 0, "010");
    T.none(17, "a and c are not", c, c.breaks(0, 0), 1);
    T.none(18, "a and c are not", c, c.first(0, 0, 0), 1);
    T.no(19, "a and c are not", c, c.step(0, 0), 1);
    T.none(20, "a and c are not", c, c.run(0, 0, 1), 1);
    T.none(36, "a and c are not, though a goes", c, c.goes(0, 0, 0), 1);
    c = Check.people(3);
    c.must(1, 2, true);
    Check.tell(c, 0, "001");
    T.none(17, "b without c", c, c.breaks(0, 0), 1);
    T.none(36, "b without c, though c goes", c, c.goes(0, 0, 2), 1);
    Check.tell(c, 0, "011");
    T.fine(17, "b with c", c, c.breaks(0, 0), 0);
  }

  /** a is with b, c is alone; a has a worth for alone, for c. Worth as much: nothing; one more: a break. */
  private static void byWorthOne() {
    for (int more = -1; more <= 1; more++) {
      int due = more > 0 ? 1 : 0;
      CabinPeace c = Check.people(3);
      c.sizes(3);
      Check.tell(c, 0, "001");
      Check.wish(c, 0, "add 5*b; add " + (5 + more) + " if size=1;");
      for (int kind = 0; kind < 5; kind++) { T.fine(17, "alone for " + more + " more, kind " + kind, c, c.breaks(0, kind), due); }
      Check.wish(c, 0, "add 5*b; add " + (5 + more) + "*c;");
      Check.wish(c, 2, "add a;");
      T.fine(17, "to c for " + more + " more", c, c.breaks(0, 1), due);
      T.fine(17, "to c for " + more + " more", c, c.breaks(0, 2), due);
      T.fine(17, "to c for " + more + " more", c, c.breaks(0, 3), due);
      T.fine(17, "with c for " + more + " more", c, c.breaks(0, 4), due);
      T.fine(17, "alone it never is", c, c.breaks(0, 0), 0);
      Check.wish(c, 2, "add b if size=2;");
      Check.wish(c, 0, "add 5*b; add " + (5 + more) + " if size=1;");
      T.fine(17, "a and c swap for " + more + " more", c, c.breaks(0, 5), due);
    }
  }

  private static void fromBarred() {
    CabinPeace c = Check.people(2);
    Check.tell(c, 0, "00");
    Check.wish(c, 0, "bar b=1; add 9*b; add 0-1000*1000 if size=1;");
    for (int kind = 0; kind < 5; kind++) { T.fine(17, "from a barred one, kind " + kind, c, c.breaks(0, kind), 1); }
    Check.wish(c, 0, "bar 1=1; add 9 if size=1;");
    for (int kind = 0; kind < 5; kind++) { T.fine(17, "from a barred one to a barred one, kind " + kind, c, c.breaks(0, kind), 0); }
    Check.wish(c, 0, "bar size=1; add 9 if size=1;");
    for (int kind = 0; kind < 5; kind++) { T.fine(17, "to a barred one, kind " + kind, c, c.breaks(0, kind), 0); }
  }

  /** Who leaves a group of two, three, four leaves one, two, three behind: is that lawful? */
  private static void whatIsLeft() {
    String[] told = {"00", "000", "0000", "00000"};
    for (int n = 2; n <= 5; n++) {
      for (int left = 0; left < 2; left++) {
        CabinPeace c = Check.people(n);
        Check.wish(c, 1, "add 1 if size=1;");
        Check.tell(c, 0, told[n - 2]);
        // All sizes but that of what is left; of two what is left has the size that b needs.
        c.sizes(left == 1 ? 255 : 255 ^ 1 << n - 2);
        for (int kind = 0; kind < 5; kind++) {
          T.fine(17, "one of " + n + " leaves, kind " + kind, c, c.breaks(0, kind), left);
        }
      }
    }
    // Nobody is left: that is fine, whatever sizes say.
    CabinPeace c = Check.people(3);
    c.sizes(1 | 4);
    Check.tell(c, 0, "012");
    for (int p = 0; p < 3; p++) { Check.wish(c, p, "add 1 if size=3;"); }
    T.fine(17, "all three at once leave nothing", c, c.breaks(0, 4), 1);
    T.fine(17, "one by one they can't", c, c.breaks(0, 1), 0);
    c.sizes(1 | 2);
    Check.wish(c, 0, "add b if size=2;");
    T.fine(17, "a leaves nothing", c, c.breaks(0, 1), 1);
    T.yes(19, "a goes to b", c, c.step(0, 1));
    T.due(19, "a is with b", Check.told(c, 0, 3), 1001);
  }

  private static void whereItGoes() {
    for (int n = 2; n <= 8; n++) {
      for (int can = 0; can < 2; can++) {
        CabinPeace c = Check.people(n);
        StringBuilder told = new StringBuilder();
        for (int p = 0; p < n; p++) { told.append(p == n - 1 ? 7 : 2); }
        Check.tell(c, 0, told.toString());
        Check.wish(c, n - 1, "add 1 if size=" + n + ";");
        c.sizes(can == 1 ? 255 : 255 ^ 1 << n - 1);
        for (int kind = 1; kind < 4; kind++) { T.fine(17, "to " + (n - 1) + " others", c, c.breaks(0, kind), can); }
        T.fine(17, "it never is alone", c, c.breaks(0, 0), 0);
        if (can == 1) {
          T.fine(18, "who", c, c.first(0, 1, 0), n - 1);
          T.fine(18, "to whom, without it", c, c.first(0, 1, 1), (1 << n - 1) - 1);
        }
      }
    }
    CabinPeace c = Check.people(3);
    Check.wish(c, 2, "add a;");
    Check.tell(c, 0, "001");
    c.must(1, 2, false);
    T.fine(17, "c is apart from b", c, c.breaks(0, 1), 0);
    c = Check.people(3);
    Check.wish(c, 2, "add a;");
    Check.tell(c, 0, "011");
    c.must(1, 2, true);
    T.fine(17, "c is bound to b", c, c.breaks(0, 1), 0);
    Check.tell(c, 0, "000");
    T.fine(17, "it has what it wants", c, c.breaks(0, 1), 0);
  }

  private static void aloneOrNot() {
    CabinPeace c = Check.people(2);
    Check.wish(c, 0, "add 1 if size=1;");
    Check.tell(c, 0, "01");
    for (int kind = 0; kind < 6; kind++) { T.fine(17, "it is alone already, kind " + kind, c, c.breaks(0, kind), 0); }
    Check.tell(c, 0, "00");
    for (int kind = 0; kind < 5; kind++) {
      T.fine(18, "a", c, c.first(0, kind, 0), kind == 4 ? 1 : 0);
      T.fine(18, "it will be alone", c, c.first(0, kind, 1), kind == 4 ? 1 : 0);
    }
    c.sizes(2);
    for (int kind = 0; kind < 6; kind++) { T.fine(17, "alone is not lawful, kind " + kind, c, c.breaks(0, kind), 0); }
  }

  /** a wants to come to b and c; each of them minds by so much. */
  private static void whoSaysNo() {
    for (int who = 1; who <= 2; who++) {
      for (int more = -1; more <= 1; more++) {
        CabinPeace c = Check.people(3);
        Check.tell(c, 0, "011");
        Check.wish(c, 0, "add b;");
        Check.wish(c, who, "add 5 if size=3; add " + (5 + more) + " if a=0 and size=2;");
        T.fine(17, "not asked", c, c.breaks(0, 1), 1);
        T.fine(17, who + " minds by " + more, c, c.breaks(0, 2), more > 0 ? 0 : 1);
        T.fine(17, who + " minds by " + more, c, c.breaks(0, 3), more > 0 ? 0 : 1);
      }
      CabinPeace c = Check.people(3);
      Check.tell(c, 0, "011");
      Check.wish(c, 0, "add b;");
      Check.wish(c, who, "bar a=1; add 9*a;");
      T.fine(17, "a barred one", c, c.breaks(0, 2), 0);
      Check.wish(c, who, "bar size>1; bar size=1; add 0-9*a;");
      T.fine(17, "both are barred", c, c.breaks(0, 2), 1);
    }
  }

  /** a wants to go from b and c, to d or alone; each of them minds by so much. */
  private static void whoIsLeft() {
    for (int who = 1; who <= 2; who++) {
      for (int more = -1; more <= 1; more++) {
        CabinPeace c = Check.people(4);
        Check.tell(c, 0, "0001");
        Check.wish(c, 0, "add d;");
        Check.wish(c, who, "add " + (5 + more) + " if a=1; add 5 if a=0 and d=0 and size=2;");
        T.fine(17, who + " is not asked", c, c.breaks(0, 2), 1);
        T.fine(17, who + " minds by " + more, c, c.breaks(0, 3), more > 0 ? 0 : 1);
        Check.wish(c, 0, "add 1 if size=1;");
        T.fine(17, "alone: not asked", c, c.breaks(0, 2), 1);
        T.fine(17, "alone: minds by " + more, c, c.breaks(0, 3), more > 0 ? 0 : 1);
      }
      CabinPeace c = Check.people(4);
      Check.tell(c, 0, "0001");
      Check.wish(c, 0, "add d;");
      Check.wish(c, who, "bar a=0 and size=2;");
      T.fine(17, "a barred one is left", c, c.breaks(0, 3), 0);
      Check.wish(c, who, "bar size>1; bar size=1; add 9*a;");
      T.fine(17, "both are barred", c, c.breaks(0, 3), 1);
    }
    // Whose mind is asked of those that it comes to in kind 3 as well.
    CabinPeace c = Check.people(2);
    Check.tell(c, 0, "01");
    Check.wish(c, 0, "add b;");
    Check.wish(c, 1, "add 0-a;");
    T.fine(17, "not asked", c, c.breaks(0, 1), 1);
    T.fine(17, "asked", c, c.breaks(0, 2), 0);
    T.fine(17, "asked", c, c.breaks(0, 3), 0);
  }

  /** All would rather be anywhere else: by person, then by the least person of the group, alone behind all. */
  private static void orderOfMoves() {
    CabinPeace c = Check.people(5);
    Check.tell(c, 0, "43434");
    Check.wish(c, 3, "add 0-b;");
    T.fine(17, "to a, c and e, or alone", c, c.breaks(0, 1), 2);
    T.fine(18, "d", c, c.first(0, 1, 0), 3);
    T.fine(18, "to the others first", c, c.first(0, 1, 1), 21);
    Check.wish(c, 3, "add 1 if size=1; add 0-b;");
    T.fine(18, "however much more alone is worth", c, c.first(0, 1, 1), 21);
    T.fine(18, "alone", c, c.first(0, 0, 1), 0);
    Check.tell(c, 0, "10210");
    Check.wish(c, 3, "");
    Check.wish(c, 4, "add 0-b;");
    T.fine(17, "to {ad}, {c}, alone", c, c.breaks(0, 1), 3);
    T.fine(18, "to a's first, whatever its number", c, c.first(0, 1, 1), 9);
    Check.wish(c, 1, "add 0-e;");
    T.fine(17, "b and e", c, c.breaks(0, 1), 6);
    T.fine(18, "b first", c, c.first(0, 1, 0), 1);
    T.fine(18, "to a's first", c, c.first(0, 1, 1), 9);
    c.must(1, 0, false);
    T.fine(18, "then to c's", c, c.first(0, 1, 1), 4);
    c.must(1, 2, false);
    T.fine(18, "then alone", c, c.first(0, 1, 1), 0);
    c.sizes(254 ^ 8 | 1);
    T.fine(17, "alone is fine", c, c.breaks(0, 0), 2);
    T.fine(18, "b", c, c.first(0, 0, 0), 1);
  }

  private static void cores() {
    // One who has nothing of it, and there is no break.
    for (int odd = -1; odd < 3; odd++) {
      CabinPeace c = Check.people(3);
      for (int p = 0; p < 3; p++) { Check.wish(c, p, p == odd ? "add 0;" : "add 1 if size=3;"); }
      Check.tell(c, 0, "012");
      T.fine(17, "all but " + odd, c, c.breaks(0, 4), odd < 0 ? 1 : 0);
      Check.tell(c, 0, "001");
      T.fine(17, "all but " + odd, c, c.breaks(0, 4), odd < 0 ? 1 : 0);
      Check.tell(c, 0, "000");
      T.fine(17, "they have it", c, c.breaks(0, 4), 0);
    }
    // Of all 15 groups of four those that all in them want: the lesser group first.
    CabinPeace c = Check.people(4);
    for (int p = 0; p < 4; p++) { Check.wish(c, p, "add 1 if size=2;"); }
    Check.tell(c, 0, "0000");
    T.fine(17, "six twos", c, c.breaks(0, 4), 6);
    T.fine(18, "a and b", c, c.first(0, 4, 0), 3);
    T.fine(18, "again", c, c.first(0, 4, 1), 3);
    c.must(0, 1, false);
    Check.tell(c, 0, "0123");
    T.fine(17, "five twos", c, c.breaks(0, 4), 5);
    T.fine(18, "a and c", c, c.first(0, 4, 0), 5);
    Check.tell(c, 0, "0101");
    T.fine(17, "they have it", c, c.breaks(0, 4), 0);
    for (int p = 0; p < 4; p++) { Check.wish(c, p, "bar 1=1; add 1 if size=2;"); }
    Check.tell(c, 0, "0123");
    T.fine(17, "all is barred", c, c.breaks(0, 4), 0);
  }

  /** Groups are sets up to 255: those of the seventh and the eighth person count as well. */
  private static void coresBeyond64() {
    for (int group : new int[] {1, 32, 63, 64, 65, 127, 128, 129, 191, 192, 193, 254, 255}) {
      CabinPeace c = Check.people(8);
      StringBuilder test = new StringBuilder("add 1 if 1=1");
      for (int p = 0; p < 8; p++) { test.append(" and ").append("abcdefgh".charAt(p)).append('=').append(group >> p & 1); }
      for (int p = 0; p < 8; p++) { Check.wish(c, p, test + ";"); }
      boolean alone = Integer.bitCount(group) == 1;
      Check.tell(c, 0, alone ? "00000000" : "01234567");
      T.fine(17, "the group " + group, c, c.breaks(0, 4), 1);
      T.fine(18, "the group " + group, c, c.first(0, 4, 0), group);
      T.fine(18, "the group " + group, c, c.first(0, 4, 1), group);
      T.yes(19, "they come together", c, c.step(0, 4));
      long digits = 1;
      for (int p = 0; p < 8; p++) { digits = digits * 10 + c.read(0, p); }
      T.none(18, "then there is peace", c, c.first(0, 4, 0), 6);
      int with = Integer.numberOfTrailingZeros(group);
      String s = String.valueOf(digits).substring(1);
      for (int p = 0; p < 8; p++) {
        boolean same = s.charAt(p) == s.charAt(with);
        T.due(19, "who is in it: " + p, same, (group >> p & 1) == 1);
      }
    }
  }

  private static void coreLeavesLawful() {
    CabinPeace c = Check.people(5);
    Check.wish(c, 0, "add d if size=2;");
    Check.wish(c, 3, "add a if size=2;");
    Check.tell(c, 0, "00011");
    T.fine(17, "a and d", c, c.breaks(0, 4), 1);
    c.sizes(255 ^ 1);
    T.fine(17, "e would be alone", c, c.breaks(0, 4), 0);
    c.sizes(255);
    c.must(3, 4, true);
    T.fine(17, "d is bound to e", c, c.breaks(0, 4), 0);
    c = Check.people(5);
    Check.wish(c, 0, "add d if size=2;");
    Check.wish(c, 3, "add a if size=2;");
    Check.tell(c, 0, "00012");
    c.sizes(1 | 4 | 2);
    T.fine(17, "b and c are left, of d's group nobody", c, c.breaks(0, 4), 1);
    c.sizes(1 | 4);
    T.fine(17, "two are not lawful", c, c.breaks(0, 4), 0);
    c.sizes(7);
    c.must(0, 3, false);
    T.fine(17, "a and d are apart", c, c.breaks(0, 4), 0);
  }

  private static void swaps() {
    // a with b, c with d: a to d, c to b; each by so much.
    for (int first = -1; first <= 1; first++) {
      for (int second = -1; second <= 1; second++) {
        CabinPeace c = Check.people(4);
        Check.tell(c, 0, "0011");
        Check.wish(c, 0, "add 5*b; add " + (5 + first) + " if d=1 and b=0;");
        Check.wish(c, 2, "add 5*d; add " + (5 + second) + " if b=1 and d=0;");
        T.fine(17, "swap for " + first + " and " + second, c, c.breaks(0, 5), first > 0 && second > 0 ? 1 : 0);
      }
    }
    CabinPeace c = Check.people(8);
    for (int p = 0; p < 8; p++) { Check.wish(c, p, "add " + (p < 4 ? "e+f+g+h" : "a+b+c+d") + ";"); }
    Check.tell(c, 0, "00001111");
    T.fine(17, "each of four with each of the other four", c, c.breaks(0, 5), 16);
    Check.tell(c, 0, "01234567");
    T.fine(17, "those alone have nothing to swap", c, c.breaks(0, 5), 0);
    c = Check.people(8);
    Check.wish(c, 6, "add 1 if size=1;");
    Check.wish(c, 7, "add f;");
    Check.tell(c, 0, "00000332");
    T.fine(17, "g is with f, h alone", c, c.breaks(0, 5), 1);
    T.fine(18, "the lesser", c, c.first(0, 5, 0), 6);
    T.fine(18, "the other", c, c.first(0, 5, 1), 7);
    T.yes(19, "they swap", c, c.step(0, 5));
    T.due(19, "h is with f", Check.told(c, 0, 8), 100000121);
  }

  private static void swapsLeaveLawful() {
    CabinPeace c = Check.people(4);
    Check.tell(c, 0, "0011");
    Check.wish(c, 0, "add d;");
    Check.wish(c, 2, "add b;");
    c.sizes(2);
    T.fine(17, "sizes stay as they are", c, c.breaks(0, 5), 1);
    c.must(0, 3, false);
    T.fine(17, "a and d are apart", c, c.breaks(0, 5), 0);
    c = Check.people(4);
    Check.tell(c, 0, "0011");
    Check.wish(c, 0, "add d;");
    Check.wish(c, 2, "add b;");
    c.must(1, 2, false);
    T.fine(17, "c and b are apart", c, c.breaks(0, 5), 0);
    c = Check.people(4);
    Check.tell(c, 0, "0011");
    Check.wish(c, 0, "add d;");
    Check.wish(c, 2, "add b;");
    c.must(0, 1, true);
    T.fine(17, "a is bound to b", c, c.breaks(0, 5), 0);
    c = Check.people(2);
    Check.wish(c, 0, "add 1 if size=1;");
    Check.wish(c, 1, "add 1 if size=1;");
    Check.tell(c, 0, "00");
    T.fine(17, "not within one group", c, c.breaks(0, 5), 0);
  }

  private static void stepsRenumber() {
    CabinPeace c = Check.people(4);
    Check.wish(c, 0, "add d;");
    Check.tell(c, 0, "0123");
    T.yes(19, "a goes to d", c, c.step(0, 1));
    T.due(19, "the number of a group is that of its first person", Check.told(c, 0, 4), 10120);
    Check.wish(c, 0, "add 1 if size=1;");
    T.yes(19, "a goes away again", c, c.step(0, 0));
    T.due(19, "numbered as they come", Check.told(c, 0, 4), 10123);
    Check.wish(c, 0, "");
    Check.wish(c, 2, "add b;");
    Check.wish(c, 1, "add c;");
    T.yes(19, "b and c", c, c.step(0, 4));
    T.due(19, "numbered as they come", Check.told(c, 0, 4), 10112);
    Check.tell(c, 0, "3333");
    T.no(19, "b and c are together: peace", c, c.step(0, 1), 6);
    T.due(19, "not even numbered anew", Check.told(c, 0, 4), 13333);
    // All eight, and the last one goes alone: the greatest number there is.
    c = Check.people(8);
    Check.wish(c, 7, "add 1 if size=1;");
    Check.tell(c, 0, "01234566");
    T.yes(19, "h goes", c, c.step(0, 1));
    T.due(19, "the number 7", Check.told(c, 0, 8), 101234567);
  }

  /** The order of all partings, seen by the first that is lawful and by weeks that name them one by one. */
  private static void orderOfPartings() {
    int[] all = {0, 1, 10, 11, 12};
    for (int i = 0; i < 5; i++) {
      CabinPeace c = Check.people(3);
      int want = all[i];
      Check.wish(c, 0, want / 10 == 0 ? "bar b=0;" : "bar b=1;");
      Check.wish(c, 1, want % 10 == want / 10 ? "bar c=0;" : "bar c=1;");
      Check.wish(c, 2, want % 10 == 0 ? "bar a=0;" : "bar a=1;");
      // Of those where nobody is in a barred group there is one alone; it has the greatest least worth.
      T.fine(24, "nobody is barred", c, c.sum(5, 2) > -1000000 ? 0 : 1, 0);
      T.fine(23, "b", c, c.room(5, 2, 1), want / 10);
      T.fine(23, "c", c, c.room(5, 2, 2), want % 10);
    }
    CabinPeace c = Check.people(8);
    T.fine(23, "the first is all together", c, c.room(0, 0, 7), 0);
    T.fine(34, "two weeks", c, c.weeks(0, 2), 4140);
    T.fine(35, "all together", c, c.week(0), 0);
    T.fine(35, "then all alone, which is the last", c, c.week(1), 4139);
  }
}
