/** Promises 7 to 16. */
public final class WishesTest {
  private static final Check T = new Check("WishesTest");

  public static void main(String[] args) {
    person();
    sizes();
    must();
    feed();
    wish();
    faults();
    edgesOfText();
    faultsOfDepthAndMany();
    worth();
    worthCut();
    kin();
    tests();
    bars();
    rather();
    lawful();
    T.end();
  }

  private static void person() {
    CabinPeace c = new CabinPeace();
    String[] keys = {"add", "bar", "if", "or", "and", "not", "size", "kin"};
    for (String key : keys) { T.none(7, key, c, c.person(Check.name(key), 0), 1); }
    T.none(7, "no name", c, c.person(0, 0), 1);
    T.none(7, "below 0", c, c.person(-1, 0), 1);
    T.none(7, "a letter 27", c, c.person(27, 0), 1);
    T.none(7, "a letter 31", c, c.person(31 << 5 | 1, 0), 1);
    T.none(7, "a letter 0 at the end", c, c.person(32, 0), 1);
    T.none(7, "a letter 0 within", c, c.person(1 << 10 | 1, 0), 1);
    T.none(7, "nine letters", c, c.person(1L << 40 | Check.name("aaaaaaaa"), 0), 1);
    T.none(7, "the highest bit", c, c.person(Long.MIN_VALUE | 1, 0), 1);
    T.none(7, "kin -1", c, c.person(1, -1), 1);
    T.none(7, "kin 10", c, c.person(1, 10), 1);
    T.fine(7, "zzzzzzzz", c, c.person(Check.name("zzzzzzzz"), 9), 0);
    T.fine(7, "addd", c, c.person(Check.name("addd"), 0), 1);
    T.none(7, "there already", c, c.person(Check.name("addd"), 3), 7);
    T.none(7, "1 ahead of 7", c, c.person(Check.name("addd"), 10), 1);
    for (int p = 2; p < 8; p++) { T.fine(7, "person " + p, c, c.person(p, 0), p); }
    T.none(7, "a ninth", c, c.person(20, 0), 4);
    T.none(7, "4 ahead of 7", c, c.person(2, 0), 4);
    T.none(7, "1 ahead of 4", c, c.person(0, 0), 1);
    T.fine(7, "eight there are", c, c.worth(7, 255), 0);
  }

  private static void sizes() {
    CabinPeace c = Check.people(3);
    T.no(8, "sizes(0)", c, c.sizes(0), 1);
    T.no(8, "sizes(256)", c, c.sizes(256), 1);
    T.no(8, "sizes(-1)", c, c.sizes(-1), 1);
    T.fine(8, "255 still", c, c.count(-1), 5);
    T.yes(8, "sizes(2)", c, c.sizes(2));
    T.fine(8, "three can't be twos", c, c.count(-1), 0);
    T.yes(8, "sizes(3)", c, c.sizes(3));
    T.fine(8, "ones and twos", c, c.count(-1), 4);
    T.yes(8, "sizes(255)", c, c.sizes(255));
    T.fine(8, "all again", c, c.count(-1), 5);
  }

  private static void must() {
    CabinPeace c = Check.people(3);
    T.no(9, "one alone", c, c.must(1, 1, true), 1);
    T.no(9, "-1", c, c.must(-1, 1, true), 1);
    T.no(9, "3", c, c.must(0, 3, false), 1);
    T.yes(9, "together", c, c.must(2, 0, true));
    T.fine(9, "two partings", c, c.count(-1), 2);
    T.yes(9, "once more", c, c.must(0, 2, true));
    T.yes(9, "apart", c, c.must(1, 0, false));
    T.fine(9, "one parting", c, c.count(-1), 1);
    T.fine(9, "it is this one", c, c.room(0, 0, 2) * 10 + c.room(0, 0, 1), 1);
    T.yes(9, "against all", c, c.must(0, 2, false));
    T.fine(9, "none", c, c.count(-1), 0);
    for (int i = 4; i < 12; i++) { T.yes(9, "must " + i, c, c.must(0, 1, false)); }
    T.no(9, "a thirteenth", c, c.must(0, 1, false), 4);
    T.no(9, "1 ahead of 4", c, c.must(0, 0, false), 1);
  }

  private static void feed() {
    CabinPeace c = Check.people(1);
    c.read(0, 0);
    for (int i = 1; i <= 15; i++) { T.due(10, "feed", c.feed(0x61646420, 0x373b2020, 0x20202020, 0x20202020, 0x20202020), 20 * i); }
    T.due(10, "more than 300", c.feed(0, 0, 0, 0, 0), -1);
    T.due(10, "no status", c.status(), 2);
    T.due(10, "more than 300", c.feed(0, 0, 0, 0, 0), -1);
    T.none(10, "301", c, c.wish(0, 301), 1);
    T.none(10, "fifteen sayings", c, c.wish(0, 300), 9);
    T.due(10, "at the thirteenth", c.fault(1), 240);
    T.due(10, "from the start again", c.feed(0x61646420, 0x39393b20, 0, 0, 0), 20);
    T.fine(10, "the highest byte first", c, c.wish(0, 8), 1);
    T.fine(10, "add 99;", c, c.worth(0, 1), 99);
  }

  private static void wish() {
    CabinPeace c = Check.people(2);
    T.fine(11, "two sayings", c, Check.wish(c, 0, "add 3; bar b=1;"), 2);
    Check.feed(c, "add 4;");
    T.none(11, "no such person", c, c.wish(2, 6), 1);
    T.none(11, "no such person", c, c.wish(-1, 6), 1);
    T.none(11, "n below 0", c, c.wish(0, -1), 1);
    T.none(11, "n too great", c, c.wish(0, 21), 1);
    T.fine(11, "the wish stays", c, c.worth(0, 1), 3);
    T.due(11, "so does what fault() tells", c.fault(0), 0);
    T.fine(11, "the tape stays", c, c.wish(1, 6), 1);
    T.fine(11, "of the other one", c, c.worth(1, 2), 4);
    T.none(11, "the whole tape is gone", c, c.wish(1, 1), 1);
    Check.feed(c, "add 5; add");
    T.none(11, "a fault", c, c.wish(0, 10), 9);
    T.none(11, "the tape is gone", c, c.wish(0, 1), 1);
    T.fine(11, "the wish stays", c, c.worth(0, 1), 3);
    T.fine(11, "and its bar", c, c.bars(0, 3), 1);
    Check.feed(c, "add 5; add");
    T.fine(11, "the first n bytes", c, c.wish(0, 6), 1);
    T.fine(11, "in place of that ahead", c, c.worth(0, 1), 5);
    T.fine(11, "and of its bar", c, c.bars(0, 3), 0);
    T.fine(11, "an empty one", c, c.wish(0, 0), 0);
    T.fine(11, "worth nothing", c, c.worth(0, 1), 0);
    T.fine(11, "blanks alone", c, Check.wish(c, 0, " \n  "), 0);
    T.fine(11, "twelve", c, Check.wish(c, 0, "add1;".repeat(12)), 12);
    T.fine(11, "twelve", c, c.worth(0, 3), 12);
    T.none(11, "a person who is not there yet", c, Check.wish(c, 0, "add c;"), 9);
    c.person(3, 0);
    T.fine(11, "now it is", c, Check.wish(c, 0, "add c;"), 1);
    T.fine(11, "in a group that was not there", c, c.worth(0, 5), 1);
  }

  private static void fault(String text, int kind, int place) {
    CabinPeace c = Check.people(2);
    int sayings = Check.wish(c, 1, text);
    T.due(12, "status() of " + text, c.status(), kind == 0 ? 0 : 9);
    T.due(12, "fault(0) of " + text, c.fault(0), kind);
    T.due(12, "fault(1) of " + text, c.fault(1), place);
    if (kind != 0) { T.due(11, "wish() of " + text, sayings, -1); }
    T.due(12, "fault(2)", c.fault(2), -1);
    T.due(12, "fault(-1)", c.fault(-1), -1);
    c.wish(0, 300);
    T.due(12, "fault(0) behind a wish() with 1", c.fault(0), kind);
  }

  private static void faults() {
    fault("", 0, -1);
    fault("add 1;", 0, -1);
    fault("add 1 ; \n", 0, -1);
    fault("add1if2=3and4<5or6>7;bar not a=b;", 0, -1);
    fault("add a*b*(size-kin)+0009;", 0, -1);
    fault("add A;", 1, 4);
    fault("add 1\t;", 1, 5);
    fault("add 12345;", 1, 4);
    fault("add 1 123456789 ~", 1, 6);
    fault("add 1; ~", 1, 7);
    fault("~", 1, 0);
    fault("add \u00e9;", 1, 4);
    fault("add 1,", 1, 5);
    fault("add", 2, 3);
    fault("add   ", 2, 6);
    fault("add 1", 2, 5);
    fault("add 1 add", 2, 6);
    fault("add ;", 2, 4);
    fault("add *;", 2, 4);
    fault("add -1;", 2, 4);
    fault("add (1;", 2, 6);
    fault("add 1);", 2, 5);
    fault("add ();", 2, 5);
    fault("add add;", 2, 4);
    fault("add not 1;", 2, 4);
    fault("add 1 2;", 2, 6);
    fault("add 1 if;", 2, 8);
    fault("add 1 if 2;", 2, 10);
    fault("add 1 if 2=3=4;", 2, 12);
    fault("add 1 if (2=3);", 2, 11);
    fault("add 1 if not not 2=3;", 2, 13);
    fault("add 1 if 2=not 3;", 2, 11);
    fault("add 1 if 2=3 if 4=5;", 2, 13);
    fault("add 1 or 2;", 2, 6);
    fault("bar 1;", 2, 5);
    fault("bar 1=2 if 3=4;", 2, 8);
    fault("bar;", 2, 3);
    fault("if 1;", 2, 0);
    fault("zoe 1;", 2, 0);
    fault("size 1;", 2, 0);
    fault(";", 2, 0);
    fault("5", 2, 0);
    fault("add 1 zoe;", 2, 6);
    fault("adda;", 2, 0);
    fault("add zoe;", 3, 4);
    fault("add ab;", 3, 4);
    fault("add 1+aaaaaaaaa;", 3, 6);
    fault("add 1 if not zoe=1;", 3, 13);
    fault("bar zoe=1;", 3, 4);
    fault("add (zoe;", 3, 5);
    fault("add c ~", 3, 4);
  }

  /** What is on the tape behind the first n bytes is no part of the text; a name may have all its eight letters. */
  private static void edgesOfText() {
    CabinPeace c = Check.people(1);
    Check.feed(c, "add 12345;");
    T.none(11, "add 1234", c, c.wish(0, 8), 9);
    T.due(12, "the end", c.fault(0) * 100 + c.fault(1), 208);
    Check.feed(c, "addd 1;");
    T.none(11, "add", c, c.wish(0, 3), 9);
    T.due(12, "the end", c.fault(0) * 100 + c.fault(1), 203);
    c.person(Check.name("abcdefgh"), 0);
    T.fine(11, "eight letters", c, Check.wish(c, 0, "add 5*abcdefgh;"), 1);
    T.fine(13, "eight letters", c, c.worth(0, 3), 5);
    T.none(11, "nine letters", c, Check.wish(c, 0, "add 5*abcdefghi;"), 9);
    T.due(12, "nine letters", c.fault(0) * 100 + c.fault(1), 306);
    T.none(11, "seven letters", c, Check.wish(c, 0, "add 5*abcdefg;"), 9);
    T.fine(13, "the wish stays", c, c.worth(0, 3), 5);
  }

  private static void faultsOfDepthAndMany() {
    fault("add ((((((1))))));", 0, -1);
    fault("add (((((((1)))))));", 5, 10);
    fault("add (((((( (", 5, 11);
    fault("add ((((((1)))))) + ((((((1))))));", 0, -1);
    fault("bar 1=(((((((1)))))));", 5, 12);
    fault("bar ((((((1))))))=((((((1))))));", 0, -1);
    fault("add 1 if (((((((1)))))))=1;", 5, 15);
    fault("add 1;".repeat(12), 0, -1);
    fault("add 1;".repeat(12) + " bar", 4, 73);
    fault("add 1;".repeat(12) + "add ~", 4, 72);
    fault("add 1;".repeat(12) + "zoe", 2, 72);
    fault("add 1;".repeat(12) + "~", 1, 72);
    fault("add 1;".repeat(12) + "if", 2, 72);
    fault("add 1" + "+1".repeat(147) + ";", 0, -1);
  }

  private static void worth(String text, int group, int want) {
    CabinPeace c = Check.people(3);
    Check.wish(c, 0, text);
    T.fine(13, "worth() of " + text, c, c.worth(0, group), want);
  }

  private static void worth() {
    worth("add 7;", 1, 7);
    worth("add 7-2-1;", 1, 4);
    worth("add 7-(2-1);", 1, 6);
    worth("add 2+3*4;", 1, 14);
    worth("add (2+3)*4;", 1, 20);
    worth("add 2*3+4*5-6;", 1, 20);
    worth("add 0-3*2*2;", 1, -12);
    worth("add size;", 7, 3);
    worth("add size*10+a+b*2+c*4;", 5, 25);
    worth("add 3; add 4 if 1=2; add 5 if size=1;", 1, 8);
    worth("bar 1=1; add 4;", 1, 4);
    CabinPeace c = Check.people(2);
    T.fine(13, "without a wish", c, c.worth(1, 3), 0);
    Check.wish(c, 0, "add 0-1;");
    T.fine(13, "a -1 that is no NONE", c, c.worth(0, 1), -1);
    T.none(13, "not in it", c, c.worth(0, 2), 1);
    T.none(13, "no group", c, c.worth(0, 0), 1);
    T.none(13, "other bits", c, c.worth(0, 5), 1);
    T.none(13, "other bits", c, c.worth(0, -1), 1);
    T.none(13, "no such person", c, c.worth(2, 7), 1);
    T.none(13, "no such person", c, c.worth(-1, 3), 1);
    c.person(3, 0);
    T.fine(13, "a group with one who came later", c, c.worth(0, 5), -1);
  }

  private static void worthCut() {
    worth("add 9999*9999;", 1, 1000000);
    worth("add 0-9999*9999;", 1, -1000000);
    worth("add 1000*1000;", 1, 1000000);
    worth("add 1000*1000-1;", 1, 999999);
    worth("add 0-1000*1000-1;", 1, -1000000);
    worth("add 9999*9999; add 5-9999*9999;", 1, 5);
    // 8192^5 is 2^65, which is 0 in 64 bits; 2^63 is the least number.
    worth("add 8192*8192*8192*8192*8192+3;", 1, 3);
    worth("add 8192*8192*8192*8192*2048;", 1, -1000000);
    worth("add 1 if 8192*8192*8192*8192*2048<0;", 1, 1);
    worth("add 1 if 8192*8192*8192*8192*2048-1>0;", 1, 1);
  }

  private static void kin() {
    CabinPeace c = new CabinPeace();
    int[] kins = {5, 0, 5, 0, 5, 9};
    for (int p = 0; p < 6; p++) { c.person(p + 1, kins[p]); }
    for (int p = 0; p < 6; p++) { Check.wish(c, p, "add kin;"); }
    T.fine(13, "kin of its own alone", c, c.worth(0, 1), 0);
    T.fine(13, "two more", c, c.worth(0, 63), 2);
    T.fine(13, "one more", c, c.worth(4, 0b111010 | 1), 1);
    T.fine(13, "no kin", c, c.worth(1, 63), 0);
    T.fine(13, "no kin, beside one like it", c, c.worth(1, 10), 0);
    T.fine(13, "a kin of one", c, c.worth(5, 63), 0);
  }

  private static void tests() {
    worth("add 1 if 1<2; add 2 if 2<1; add 4 if 1<1;", 1, 1);
    worth("add 1 if 1>2; add 2 if 2>1; add 4 if 1>1;", 1, 2);
    worth("add 1 if 1=2; add 2 if 2=1; add 4 if 1=1;", 1, 4);
    worth("add 1 if not 1<2; add 2 if not 2<1;", 1, 2);
    worth("add 1 if 1=1 or 1=1 and 1=2;", 1, 1);
    worth("add 1 if 1=2 and 1=1 or 1=1;", 1, 1);
    worth("add 1 if 1=2 and 1=1 or 1=2;", 1, 0);
    worth("add 1 if not 1=2 and 1=2;", 1, 0);
    worth("add 1 if not 1=1 or not 1=2;", 1, 1);
    worth("add 1 if 1=1 and not 1=1 or 1=2;", 1, 0);
    worth("add 1 if 1+1<size*2-3;", 7, 1);
  }

  private static void bars() {
    CabinPeace c = Check.people(3);
    Check.wish(c, 0, "bar size=3; add 4; bar b=1 and c=0;");
    T.fine(14, "alone", c, c.bars(0, 1), 0);
    T.fine(14, "by the second", c, c.bars(0, 3), 1);
    T.fine(14, "by the first", c, c.bars(0, 7), 1);
    T.fine(14, "by none", c, c.bars(0, 5), 0);
    T.fine(14, "of another one", c, c.bars(1, 7), 0);
    T.fine(13, "worth() all the same", c, c.worth(0, 7), 4);
    T.none(14, "not in it", c, c.bars(0, 2), 1);
    T.none(14, "no group", c, c.bars(0, 0), 1);
    T.none(14, "other bits", c, c.bars(0, 9), 1);
    T.none(14, "no such person", c, c.bars(3, 15), 1);
  }

  private static void rather() {
    CabinPeace c = Check.people(3);
    Check.wish(c, 0, "add 5*b + 5*c; bar size=3; bar size=1;");
    T.fine(15, "to a barred one", c, c.rather(0, 7, 3), 0);
    T.fine(15, "from a barred one", c, c.rather(0, 3, 7), 1);
    T.fine(15, "both barred", c, c.rather(0, 7, 1), 0);
    T.fine(15, "both barred", c, c.rather(0, 1, 7), 0);
    T.fine(15, "worth the same", c, c.rather(0, 3, 5), 0);
    T.fine(15, "the same one", c, c.rather(0, 3, 3), 0);
    Check.wish(c, 0, "add 5*b + 4*c; bar size=3; add 0-1000*1000 if c=1;");
    T.fine(15, "greater", c, c.rather(0, 3, 5), 1);
    T.fine(15, "less", c, c.rather(0, 5, 3), 0);
    T.fine(15, "from a barred one to the worst", c, c.rather(0, 5, 7), 1);
    T.none(15, "not in the one", c, c.rather(0, 2, 3), 1);
    T.none(15, "not in the other", c, c.rather(0, 3, 2), 1);
    T.none(15, "other bits", c, c.rather(0, 3, 9), 1);
    T.none(15, "other bits", c, c.rather(0, 9, 3), 1);
    T.none(15, "no group", c, c.rather(0, 3, 0), 1);
    T.none(15, "no such person", c, c.rather(-1, 3, 5), 1);
  }

  private static void lawful() {
    CabinPeace c = Check.people(4);
    T.fine(16, "alone", c, c.lawful(8), 1);
    T.none(16, "no group", c, c.lawful(0), 1);
    T.none(16, "other bits", c, c.lawful(16), 1);
    T.none(16, "below 0", c, c.lawful(-1), 1);
    c.sizes(2 | 4);
    T.fine(16, "one", c, c.lawful(1), 0);
    T.fine(16, "two", c, c.lawful(9), 1);
    T.fine(16, "three", c, c.lawful(11), 1);
    T.fine(16, "four", c, c.lawful(15), 0);
    c.must(0, 3, true);
    T.fine(16, "both", c, c.lawful(9), 1);
    T.fine(16, "one of the two", c, c.lawful(3), 0);
    T.fine(16, "the other one", c, c.lawful(12), 0);
    T.fine(16, "neither", c, c.lawful(6), 1);
    c.must(2, 1, false);
    T.fine(16, "two who are apart", c, c.lawful(6), 0);
    T.fine(16, "one of them", c, c.lawful(11), 1);
  }
}
