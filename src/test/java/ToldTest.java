/** Promises 17 to 21. */
public final class ToldTest {
  private static final Check T = new Check("ToldTest");

  public static void main(String[] args) {
    refused();
    lawfulTold();
    alone();
    moves();
    order();
    asks();
    leaves();
    cores();
    coresBySize();
    swaps();
    steps();
    runs();
    ran();
    T.end();
  }

  private static void refused() {
    CabinPeace c = Check.people(3);
    Check.tell(c, 0, "012");
    for (int kind : new int[] {-2, -1, 6, 7}) {
      T.none(17, "breaks() of kind " + kind, c, c.breaks(0, kind), 1);
      T.none(18, "first() of kind " + kind, c, c.first(0, kind, 0), 1);
      T.no(19, "step() of kind " + kind, c, c.step(0, kind), 1);
      T.none(20, "run() of kind " + kind, c, c.run(0, kind, 5), 1);
    }
    for (int tray : new int[] {-1, 4}) {
      T.none(17, "breaks() of tray " + tray, c, c.breaks(tray, 0), 1);
      T.none(18, "first() of tray " + tray, c, c.first(tray, 0, 0), 1);
      T.no(19, "step() of tray " + tray, c, c.step(tray, 0), 1);
      T.none(20, "run() of tray " + tray, c, c.run(tray, 0, 5), 1);
    }
    T.none(18, "what -1", c, c.first(0, 0, -1), 1);
    T.none(18, "what 2", c, c.first(0, 0, 2), 1);
    T.none(18, "1 ahead of 2", c, c.first(1, 0, 2), 1);
    T.none(20, "most 0", c, c.run(0, 0, 0), 1);
    T.none(20, "most 201", c, c.run(0, 0, 201), 1);
    T.none(20, "1 ahead of 2", c, c.run(1, 0, 0), 1);
    T.none(17, "missing", c, c.breaks(1, 0), 2);
    T.none(18, "missing", c, c.first(1, 0, 0), 2);
    T.no(19, "missing", c, c.step(1, 0), 2);
    T.none(20, "missing", c, c.run(1, 0, 200), 2);
    Check.tell(c, 1, "98");
    T.none(17, "too few, ahead of no parting", c, c.breaks(1, 0), 3);
    T.none(18, "too few", c, c.first(1, 0, 1), 3);
    T.no(19, "too few", c, c.step(1, 0), 3);
    T.none(20, "too few", c, c.run(1, 0, 1), 3);
    T.none(18, "peace", c, c.first(0, 1, 0), 6);
    T.no(19, "peace", c, c.step(0, 1), 6);
    T.fine(17, "peace", c, c.breaks(0, 1), 0);
    T.fine(20, "peace", c, c.run(0, 1, 1), 0);
  }

  private static void lawfulTold() {
    CabinPeace c = Check.people(2);
    Check.tell(c, 0, "77");
    T.fine(17, "seven is a number", c, c.breaks(0, 4), 0);
    Check.tell(c, 0, "18");
    T.none(17, "eight is none", c, c.breaks(0, 4), 1);
    T.none(18, "eight is none", c, c.first(0, 4, 0), 1);
    T.no(19, "eight is none", c, c.step(0, 4), 1);
    T.none(20, "eight is none", c, c.run(0, 4, 9), 1);
    c.tray(0, 3, 2);
    c.write(0, 1, -1);
    T.none(17, "-1 is none", c, c.breaks(0, 4), 1);
    c.write(0, 1, 1L << 32);
    T.none(17, "2^32 is none", c, c.breaks(0, 4), 1);
    Check.tell(c, 0, "018");
    T.fine(17, "the first numbers alone", c, c.breaks(0, 4), 0);
    c.sizes(2);
    T.none(17, "not lawful", c, c.breaks(0, 4), 1);
    Check.tell(c, 0, "33");
    T.fine(17, "lawful", c, c.breaks(0, 4), 0);
    c.must(0, 1, false);
    T.none(17, "apart", c, c.breaks(0, 4), 1);
    CabinPeace nobody = new CabinPeace();
    nobody.tray(0, 0, 0);
    for (int kind = 0; kind < 6; kind++) {
      T.fine(17, "nobody", nobody, nobody.breaks(0, kind), 0);
      T.fine(20, "nobody", nobody, nobody.run(0, kind, 1), 0);
    }
  }

  private static void alone() {
    CabinPeace c = Check.people(4);
    Check.wish(c, 1, "add 0-1*a;");
    Check.wish(c, 2, "bar size=3;");
    Check.wish(c, 3, "add 1 if size=1;");
    Check.tell(c, 0, "0001");
    T.fine(17, "two would rather be alone", c, c.breaks(0, 0), 2);
    T.fine(18, "the first", c, c.first(0, 0, 0), 1);
    T.fine(18, "alone", c, c.first(0, 0, 1), 0);
    c.sizes(1 | 4);
    T.fine(17, "what is left is not lawful", c, c.breaks(0, 0), 0);
    c.sizes(2 | 4 | 8);
    Check.tell(c, 0, "0000");
    T.fine(17, "alone is not lawful", c, c.breaks(0, 0), 0);
    c.sizes(255);
    T.fine(17, "two of all", c, c.breaks(0, 0), 2);
    c.must(0, 1, true);
    T.fine(17, "one of them is bound", c, c.breaks(0, 0), 1);
    T.fine(18, "the other one", c, c.first(0, 0, 0), 3);
  }

  private static void moves() {
    CabinPeace c = Check.chase();
    Check.tell(c, 0, "001");
    T.fine(17, "b goes to c", c, c.breaks(0, 1), 1);
    T.fine(18, "b", c, c.first(0, 1, 0), 1);
    T.fine(18, "to c", c, c.first(0, 1, 1), 4);
    c.sizes(7);
    T.fine(17, "c comes too", c, c.breaks(0, 1), 2);
    T.fine(18, "b first", c, c.first(0, 1, 0), 1);
    Check.tell(c, 0, "011");
    T.fine(18, "a first", c, c.first(0, 1, 0), 0);
    T.fine(18, "to both", c, c.first(0, 1, 1), 6);
    c.sizes(2 | 4);
    T.none(17, "one alone is not lawful", c, c.breaks(0, 1), 1);
    c = Check.people(4);
    Check.wish(c, 0, "add 3 if c=1 and size=3; add 0-1 if b=1;");
    Check.tell(c, 0, "0011");
    T.fine(17, "to a greater one, or alone", c, c.breaks(0, 1), 2);
    c.must(0, 1, true);
    T.fine(17, "b is left behind", c, c.breaks(0, 1), 0);
  }

  private static void order() {
    CabinPeace c = Check.people(4);
    Check.wish(c, 3, "add 0-1*c;");
    Check.tell(c, 0, "5033");
    T.fine(17, "to a, to b, alone", c, c.breaks(0, 1), 3);
    T.fine(18, "d", c, c.first(0, 1, 0), 3);
    T.fine(18, "to the group of a", c, c.first(0, 1, 1), 1);
    c.must(3, 0, false);
    T.fine(17, "to b, alone", c, c.breaks(0, 1), 2);
    T.fine(18, "to b, alone behind all", c, c.first(0, 1, 1), 2);
    c.must(3, 1, false);
    T.fine(17, "alone", c, c.breaks(0, 1), 1);
    T.fine(18, "alone", c, c.first(0, 1, 1), 0);
    c = Check.people(4);
    Check.wish(c, 2, "add 1*a;");
    Check.wish(c, 1, "add 1*d;");
    Check.tell(c, 0, "0112");
    T.fine(17, "two go", c, c.breaks(0, 1), 2);
    T.fine(18, "the lesser person first", c, c.first(0, 1, 0), 1);
    T.fine(18, "though its goal is greater", c, c.first(0, 1, 1), 8);
  }

  private static void asks() {
    CabinPeace c = Check.people(3);
    Check.wish(c, 0, "add 1*b;");
    Check.wish(c, 1, "add 0-1*a;");
    Check.tell(c, 0, "011");
    T.fine(17, "a moves to b and c", c, c.breaks(0, 1), 1);
    T.fine(17, "but b says no", c, c.breaks(0, 2), 0);
    Check.wish(c, 1, "add 0*a;");
    T.fine(17, "b does not mind", c, c.breaks(0, 2), 1);
    Check.wish(c, 2, "bar size=3;");
    T.fine(17, "c says no", c, c.breaks(0, 2), 0);
    Check.wish(c, 2, "bar size=3 or size=2;");
    T.fine(17, "c has nothing to lose, but would rather be alone", c, c.breaks(0, 2), 2);
    T.fine(18, "so a comes first", c, c.first(0, 2, 0), 0);
    Check.wish(c, 2, "");
    Check.tell(c, 0, "000");
    Check.wish(c, 0, "add 1 if size=1;");
    T.fine(17, "alone nobody is asked", c, c.breaks(0, 2), 1);
    T.fine(18, "alone", c, c.first(0, 2, 1), 0);
  }

  private static void leaves() {
    CabinPeace c = Check.chase();
    Check.tell(c, 0, "001");
    T.fine(17, "c does not mind", c, c.breaks(0, 2), 1);
    T.fine(17, "but a minds", c, c.breaks(0, 3), 0);
    Check.wish(c, 0, "add 2*c;");
    T.fine(17, "a does not mind; b would, if a went", c, c.breaks(0, 3), 1);
    T.fine(18, "so b goes", c, c.first(0, 3, 0), 1);
    c = Check.people(3);
    Check.wish(c, 0, "add 1*b;");
    Check.wish(c, 1, "add 0-1*a;");
    Check.tell(c, 0, "010");
    T.fine(17, "b says no in kind 3 too", c, c.breaks(0, 3), 0);
    T.fine(17, "in kind 1 not", c, c.breaks(0, 1), 1);
    Check.tell(c, 0, "000");
    T.fine(17, "b would rather be alone", c, c.breaks(0, 0), 1);
    T.fine(17, "a would rather have b", c, c.breaks(0, 3), 0);
  }

  private static void cores() {
    CabinPeace c = Check.chase();
    Check.tell(c, 0, "012");
    T.fine(17, "three twos", c, c.breaks(0, 4), 3);
    T.fine(18, "the least", c, c.first(0, 4, 0), 3);
    T.fine(18, "again", c, c.first(0, 4, 1), 3);
    Check.tell(c, 0, "001");
    T.fine(17, "b and c", c, c.breaks(0, 4), 1);
    T.fine(18, "b and c", c, c.first(0, 4, 0), 6);
    c.sizes(7);
    T.fine(17, "and all three", c, c.breaks(0, 4), 2);
    T.fine(18, "b and c", c, c.first(0, 4, 1), 6);
    Check.tell(c, 0, "000");
    T.fine(17, "all three are content", c, c.breaks(0, 4), 0);
    Check.wish(c, 1, "bar size=3;");
    T.fine(17, "b alone, b with c; not with a", c, c.breaks(0, 4), 1);
    T.fine(18, "b alone", c, c.first(0, 4, 0), 2);
  }

  private static void coresBySize() {
    CabinPeace c = Check.people(4);
    Check.wish(c, 1, "add 1*c;");
    Check.wish(c, 2, "add 1*b;");
    Check.tell(c, 0, "0011");
    T.fine(17, "b with c", c, c.breaks(0, 4), 1);
    T.fine(18, "b with c", c, c.first(0, 4, 0), 6);
    c.sizes(2);
    T.fine(17, "what is left is not lawful", c, c.breaks(0, 4), 0);
    c.sizes(1 | 2);
    c.must(2, 3, true);
    T.fine(17, "c is bound to d", c, c.breaks(0, 4), 0);
    c = Check.people(7);
    for (int p = 0; p < 7; p++) { Check.wish(c, p, "add 1 if size=7;"); }
    Check.tell(c, 0, "0123456");
    T.fine(17, "all of seven", c, c.breaks(0, 4), 1);
    T.fine(18, "all of seven", c, c.first(0, 4, 0), 127);
    c.person(8, 0);
    Check.tell(c, 0, "01234567");
    T.fine(17, "h has no wish", c, c.breaks(0, 4), 1);
    Check.wish(c, 7, "add 1 if size=2;");
    Check.wish(c, 6, "add 1 if size=2;");
    T.fine(17, "g and h", c, c.breaks(0, 4), 1);
    T.fine(18, "g and h", c, c.first(0, 4, 0), 192);
  }

  private static void swaps() {
    CabinPeace c = Check.people(4);
    Check.wish(c, 0, "add 1*d;");
    Check.wish(c, 2, "add 1*b;");
    Check.tell(c, 0, "0011");
    T.fine(17, "a and c", c, c.breaks(0, 5), 1);
    T.fine(18, "the lesser", c, c.first(0, 5, 0), 0);
    T.fine(18, "the other", c, c.first(0, 5, 1), 2);
    Check.wish(c, 1, "add 1*c;");
    Check.wish(c, 3, "add 1*a;");
    T.fine(17, "b and d too", c, c.breaks(0, 5), 2);
    T.fine(18, "by the lesser person", c, c.first(0, 5, 1), 2);
    c.must(0, 3, false);
    T.fine(17, "a and d are apart", c, c.breaks(0, 5), 0);
    c = Check.people(3);
    Check.wish(c, 0, "add 1 if size=1;");
    Check.wish(c, 2, "add 1*b;");
    Check.tell(c, 0, "001");
    T.fine(17, "one alone swaps too", c, c.breaks(0, 5), 1);
    T.fine(18, "with a", c, c.first(0, 5, 0) * 10 + c.first(0, 5, 1), 2);
    Check.tell(c, 0, "000");
    T.fine(17, "not within a group", c, c.breaks(0, 5), 0);
  }

  private static void steps() {
    CabinPeace c = Check.people(4);
    Check.wish(c, 0, "add 1*d;");
    Check.wish(c, 2, "add 1*b;");
    Check.tell(c, 0, "33559");
    T.yes(19, "a and c swap", c, c.step(0, 5));
    T.due(19, "numbered as they come; the rest stays", Check.told(c, 0, 5), 101109);
    T.no(19, "then there is peace", c, c.step(0, 5), 6);
    T.due(19, "the tray stays", Check.told(c, 0, 5), 101109);
    Check.tell(c, 0, "7777");
    T.no(19, "peace: not even numbered anew", c, c.step(0, 0), 6);
    T.due(19, "the tray stays", Check.told(c, 0, 4), 17777);
    c = Check.chase();
    Check.tell(c, 0, "210");
    T.yes(19, "a and b", c, c.step(0, 4));
    T.due(19, "told anew", Check.told(c, 0, 3), 1001);
    T.yes(19, "b moves to c", c, c.step(0, 1));
    T.due(19, "told anew", Check.told(c, 0, 3), 1011);
    Check.wish(c, 2, "add 1 if size=1;");
    T.yes(19, "c alone", c, c.step(0, 0));
    T.due(19, "told anew", Check.told(c, 0, 3), 1012);
  }

  private static void runs() {
    CabinPeace c = Check.chase();
    Check.tell(c, 0, "0129");
    T.fine(20, "one step, then round", c, c.run(0, 4, 200), 4);
    T.due(20, "where the ring closes", Check.told(c, 0, 4), 10019);
    T.fine(21, "a ring", c, c.ran(0), 1);
    T.fine(21, "its first step", c, c.ran(1), 1);
    T.fine(21, "its steps", c, c.ran(2), 3);
    T.fine(20, "round at once", c, c.run(0, 4, 3), 3);
    T.fine(21, "a ring", c, c.ran(0), 1);
    T.fine(21, "from the one told", c, c.ran(1), 0);
    T.fine(21, "its steps", c, c.ran(2), 3);
    T.fine(20, "two at most", c, c.run(0, 4, 2), 2);
    T.due(20, "that far", Check.told(c, 0, 4), 10109);
    T.fine(21, "neither", c, c.ran(0), 2);
    T.none(21, "no ring", c, c.ran(1), 6);
    T.none(21, "no ring", c, c.ran(2), 6);
    Check.tell(c, 0, "2109");
    T.fine(20, "one step to peace", c, c.run(0, 3, 200), 1);
    T.due(20, "peace", Check.told(c, 0, 4), 10019);
    T.fine(21, "peace", c, c.ran(0), 0);
    T.none(21, "no ring", c, c.ran(1), 6);
    Check.tell(c, 0, "2109");
    T.fine(20, "at most one step, and peace is there", c, c.run(0, 3, 1), 1);
    T.fine(21, "peace", c, c.ran(0), 0);
    Check.tell(c, 0, "5509");
    T.fine(20, "peace from the start", c, c.run(0, 0, 1), 0);
    T.due(20, "numbered anew", Check.told(c, 0, 4), 10019);
  }

  private static void ran() {
    CabinPeace c = Check.chase();
    T.none(21, "no run yet", c, c.ran(0), 6);
    T.none(21, "no run yet", c, c.ran(2), 6);
    T.none(21, "what -1", c, c.ran(-1), 1);
    T.none(21, "what 3", c, c.ran(3), 1);
    c.run(0, 4, 5);
    T.none(21, "a run that was refused", c, c.ran(0), 6);
    Check.tell(c, 0, "001");
    c.run(0, 4, 200);
    c.run(0, 4, 0);
    c.run(1, 4, 9);
    c.sizes(255);
    T.fine(21, "the latest that was none", c, c.ran(0), 1);
    T.fine(21, "the latest that was none", c, c.ran(2), 3);
  }
}
