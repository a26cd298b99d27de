/** WISHES in part 1 of the terms: the tape, tokens, faults, worths, at each limit, just below it and just beyond it. */
public final class EdgesOfTextsTest {
  private static final Check T = new Check("EdgesOfTextsTest");

  public static void main(String[] args) {
    tape();
    bytesOfTape();
    firstBytes();
    wholeTape();
    everyByte();
    blanks();
    digits();
    words();
    namesInTexts();
    sayings();
    brackets();
    firstAlongTheText();
    leastKindOfOneToken();
    endOfText();
    everyEnd();
    T.end();
  }

  private static void tape() {
    CabinPeace c = Check.people(1);
    for (int i = 1; i <= 15; i++) { T.due(10, "feed " + i, c.feed(0x20202020, 0x20202020, 0x20202020, 0x20202020, 0x20202020), 20 * i); }
    T.due(10, "a sixteenth", c.feed(0x7e7e7e7e, 0, 0, 0, 0), -1);
    T.none(11, "301 bytes", c, c.wish(0, 301), 1);
    T.fine(11, "all 300 bytes, none of the sixteenth", c, c.wish(0, 300), 0);
    T.due(10, "it is empty then", c.feed(0x7e7e7e7e, 0, 0, 0, 0), 20);
    T.none(11, "21 of 20", c, c.wish(0, 21), 1);
    T.none(11, "20 of 20", c, c.wish(0, 20), 9);
    T.due(12, "the first byte", c.fault(0) * 100 + c.fault(1), 100);
    c = new CabinPeace();
    T.due(10, "there may be nobody", c.feed(1, 2, 3, 4, 5), 20);
    T.none(11, "nobody is there", c, c.wish(0, 0), 1);
    c.person(1, 0);
    T.due(10, "they are there still", c.feed(1, 2, 3, 4, 5), 40);
    T.due(12, "no wish was read", c.fault(0), -1);
    T.due(12, "no wish was read", c.fault(1), -1);
  }

  /** Each of the twenty bytes comes to its place, the highest of each int first; a byte of 128 and more is one as well. */
  private static void bytesOfTape() {
    for (int at = 0; at < 20; at++) {
      for (int odd : new int[] {0, 127, 128, 255}) {
        CabinPeace c = Check.people(1);
        int[] five = new int[5];
        for (int i = 0; i < 20; i++) { five[i / 4] = five[i / 4] << 8 | (i == at ? odd : 32); }
        c.feed(0x20202020, 0x20202020, 0x20202020, 0x20202020, 0x20202020);
        c.feed(five[0], five[1], five[2], five[3], five[4]);
        T.none(10, "no token begins with " + odd, c, c.wish(0, 40), 9);
        T.due(10, "its place", c.fault(0) * 100 + c.fault(1), 120 + at);
      }
    }
    CabinPeace c = Check.people(1);
    c.feed(0x61646420, 0x313b6164, 0x6420323b, 0x61646420, 0x343b2020);
    T.fine(10, "add 1;add 2;add 4;", c, c.wish(0, 20), 3);
    T.fine(10, "add 1;add 2;add 4;", c, c.worth(0, 1), 7);
  }

  /** What stands on the tape behind the first n bytes is lost, and no part of the text. */
  private static void firstBytes() {
    String text = "add 1;add 2;add 345;";
    int[] sayings = {0, -1, -1, -1, -1, -1, 1, -1, -1, -1, -1, -1, 2, -1, -1, -1, -1, -1, -1, -1, 3};
    int[] worth = {0, 0, 0, 0, 0, 0, 1, 0, 0, 0, 0, 0, 3, 0, 0, 0, 0, 0, 0, 0, 348};
    for (int n = 0; n <= 20; n++) {
      CabinPeace c = Check.people(1);
      Check.feed(c, text);
      T.due(11, "the first " + n + " bytes", c.wish(0, n), sayings[n]);
      T.due(11, "their status", c.status(), sayings[n] < 0 ? 9 : 0);
      T.due(12, "their fault", c.fault(0), sayings[n] < 0 ? 2 : 0);
      boolean within = n == 1 || n == 2 || n == 7 || n == 8 || n == 13 || n == 14;
      T.due(12, "its place", c.fault(1), sayings[n] >= 0 ? -1 : within ? n < 3 ? 0 : n < 9 ? 6 : 12 : n);
      T.fine(13, "what comes of it", c, c.worth(0, 1), worth[n]);
      T.due(11, "the tape is empty then", c.feed(0, 0, 0, 0, 0), 20);
    }
    CabinPeace c = Check.people(2);
    Check.feed(c, text);
    T.none(11, "no such person: the tape stays", c, c.wish(2, 6), 1);
    T.none(11, "too many bytes: the tape stays", c, c.wish(1, 21), 1);
    T.fine(11, "it is there", c, c.wish(1, 20), 3);
    T.none(11, "now it is not", c, c.wish(1, 1), 1);
    T.fine(11, "none of none", c, c.wish(1, 0), 0);
    T.fine(11, "in place of that ahead", c, c.worth(1, 2), 0);
  }

  /** Texts of 300 bytes: one long sum, blanks to the last byte, a fault at the last byte and at the end. */
  private static void wholeTape() {
    CabinPeace c = Check.people(1);
    T.fine(11, "300 bytes, a blank the last", c, Check.wish(c, 0, "add 11" + "+1".repeat(146) + "; "), 1);
    T.fine(13, "11 and 146", c, c.worth(0, 1), 157);
    T.fine(11, "300 bytes to the last sign", c, Check.wish(c, 0, "add 1111" + "*1".repeat(145) + " ;"), 1);
    T.fine(13, "1111", c, c.worth(0, 1), 1111);
    T.none(11, "a fault at the last byte", c, Check.wish(c, 0, "add 1;" + " ".repeat(293) + "~"), 9);
    T.due(12, "299", c.fault(0) * 1000 + c.fault(1), 1299);
    T.none(11, "a fault at the end", c, Check.wish(c, 0, "add 1" + " ".repeat(295)), 9);
    T.due(12, "300", c.fault(0) * 1000 + c.fault(1), 2300);
    T.none(11, "one word of 300 letters", c, Check.wish(c, 0, "a".repeat(300)), 9);
    T.due(12, "it can't stand there", c.fault(0) * 1000 + c.fault(1), 2000);
    T.none(11, "296 digits", c, Check.wish(c, 0, "add " + "1".repeat(296)), 9);
    T.due(12, "at the first of them", c.fault(0) * 1000 + c.fault(1), 1004);
    T.none(11, "296 letters", c, Check.wish(c, 0, "add " + "z".repeat(296)), 9);
    T.due(12, "no name", c.fault(0) * 1000 + c.fault(1), 3004);
    T.fine(13, "the wish stays", c, c.worth(0, 1), 1111);
    for (String token : new String[] {";", "(", ")", "1", "="}) {
      T.none(11, "300 tokens, or one of 300 digits", c, Check.wish(c, 0, token.repeat(300)), 9);
      T.due(12, "the first can't stand there", c.fault(0) * 1000 + c.fault(1), token.equals("1") ? 1000 : 2000);
    }
    T.fine(11, "299 tokens and a blank", c, Check.wish(c, 0, "add1" + "+1".repeat(147) + "; "), 1);
    T.fine(13, "148", c, c.worth(0, 1), 148);
    T.none(11, "297 tokens and no end", c, Check.wish(c, 0, "add" + "1+".repeat(148) + "1"), 9);
    T.due(12, "the end", c.fault(0) * 1000 + c.fault(1), 2300);
    T.fine(11, "300 bytes of sayings", c, Check.wish(c, 0, "add 1 if 1=1 and not 2=1;".repeat(12)), 12);
    T.fine(13, "twelve", c, c.worth(0, 1), 12);
    T.fine(11, "tests to the last byte", c, Check.wish(c, 0, "bar 1=2" + "or 1=2".repeat(48) + "\n   ;"), 1);
    T.fine(14, "none holds", c, c.bars(0, 1), 0);
    T.fine(11, "tests to the last byte", c, Check.wish(c, 0, "bar 1=2" + "or 1=2".repeat(47) + "or 1=a    ;"), 1);
    T.fine(14, "the last one holds", c, c.bars(0, 1), 1);
  }

  /** Each byte from 0 to 255, where a saying, an atom and an end of a sum can stand. */
  private static void everyByte() {
    String signs = ";<>=+-*()";
    for (int b = 0; b < 256; b++) {
      char x = (char) b;
      boolean blank = b == 10 || b == 32;
      boolean letter = b >= 97 && b <= 122;
      boolean digit = b >= 48 && b <= 57;
      boolean token = letter || digit || signs.indexOf(x) >= 0;
      faultOf("" + x, blank ? 0 : token ? 2 : 1, blank ? -1 : 0);
      boolean fineThere = blank || digit || b == 'a' || b == 'b';
      faultOf("add 1+" + x + (blank ? "1;" : ";"), fineThere ? 0 : b == '(' ? 2 : !token ? 1 : letter ? 3 : 2,
          fineThere ? -1 : b == '(' ? 7 : 6);
      // Behind a whole number: more digits are the same one; what is left of the text goes on from there.
      boolean goesOn = blank || digit || b == ';';
      int kind = goesOn ? 0 : token ? 2 : 1;
      int place = goesOn ? -1 : "+-*".indexOf(x) >= 0 ? 6 : 5;
      faultOf("add 1" + x + (b == ';' ? "" : ";"), kind, place);
    }
  }

  private static void faultOf(String text, int kind, int place) {
    CabinPeace c = Check.people(2);
    int sayings = Check.wish(c, 1, text);
    String what = text.length() < 60 ? text : text.substring(0, 20) + ".." + text.substring(text.length() - 30);
    T.due(12, "fault(0) of " + what, c.fault(0), kind);
    T.due(12, "fault(1) of " + what, c.fault(1), place);
    T.due(11, "status() of " + what, c.status(), kind == 0 ? 0 : 9);
    if (kind != 0) { T.due(11, "wish() of " + what, sayings, -1); }
  }

  /** Blanks are 10 and 32, any number of them or none; but two tokens of letters, or of digits, are one without. */
  private static void blanks() {
    faultOf("\n\n  \n", 0, -1);
    faultOf("\nadd\n1\n;\n", 0, -1);
    faultOf("add1;", 0, -1);
    faultOf("add1if1=1;bar1=1or1=1and1=1;", 0, -1);
    faultOf("adda;", 2, 0);
    faultOf("ad d 1;", 2, 0);
    faultOf("add 1 1;", 2, 6);
    faultOf("add a b;", 2, 6);
    faultOf("add ab;", 3, 4);
    faultOf("add 1a;", 2, 5);
    faultOf("add a1;", 2, 5);
    faultOf("add 1if 1=1;", 0, -1);
    faultOf("add aif 1=1;", 3, 4);
    faultOf("add 1 if not1=1;", 0, -1);
    faultOf("add 1 if nota=1;", 3, 9);
    faultOf("add 1 if a=1 anda=1;", 2, 13);
    faultOf("add 1 if a=1and a=1;", 0, -1);
    faultOf("add\t1;", 1, 3);
    faultOf("add\r1;", 1, 3);
    faultOf("add\0001;", 1, 3);
    faultOf("add\u00a01;", 1, 3);
  }

  private static void worthOf(String text, int want) {
    CabinPeace c = Check.people(2);
    T.fine(11, text, c, Check.wish(c, 0, text), 1);
    T.fine(13, "worth() of " + text, c, c.worth(0, 3), want);
  }

  private static void digits() {
    worthOf("add 0;", 0);
    worthOf("add 9;", 9);
    worthOf("add 0000;", 0);
    worthOf("add 0001;", 1);
    worthOf("add 999;", 999);
    worthOf("add 9999;", 9999);
    worthOf("add 9999+9999;", 19998);
    faultOf("add 00000;", 1, 4);
    faultOf("add 00001;", 1, 4);
    faultOf("add 10000;", 1, 4);
    faultOf("add 99999;", 1, 4);
    faultOf("add 1234567890;", 1, 4);
    faultOf("add 1+10000;", 1, 6);
    faultOf("add 1000 0;", 2, 9);
    faultOf("10000", 1, 0);
    faultOf("1000", 2, 0);
    faultOf("add 1 12345;", 1, 6);
    faultOf("add 1 1234;", 2, 6);
    faultOf("bar 1=12345;", 1, 6);
    faultOf("bar 1=1234;", 0, -1);
    // A number as great as eighteen digits and more must not come round to a small one.
    faultOf("add 18446744073709551617;", 1, 4);
  }

  /** Words of the wrong length, or that only begin or end like a key word or a name. */
  private static void words() {
    for (String key : new String[] {"add", "bar", "if", "or", "and", "not"}) {
      faultOf("add " + key + ";", 2, 4);
      faultOf("add 1+" + key + ";", 2, 6);
      faultOf("add " + key + "s;", 3, 4);
      faultOf("add s" + key + ";", 3, 4);
      faultOf("add " + key.substring(1) + ";", 3, 4);
    }
    faultOf("add size;", 0, -1);
    faultOf("add kin;", 0, -1);
    faultOf("add sizes;", 3, 4);
    faultOf("add siz;", 3, 4);
    faultOf("add kins;", 3, 4);
    faultOf("add ki;", 3, 4);
    faultOf("adds 1;", 2, 0);
    faultOf("ad 1;", 2, 0);
    faultOf("bars 1=1;", 2, 0);
    faultOf("ba 1=1;", 2, 0);
    faultOf("size;", 2, 0);
    faultOf("a;", 2, 0);
    faultOf("add 1 iff 1=1;", 2, 6);
    faultOf("add 1 i 1=1;", 2, 6);
    faultOf("bar 1=1 ors 1=1;", 2, 8);
    faultOf("bar 1=1 an 1=1;", 2, 8);
    faultOf("bar nots 1=1;", 3, 4);
    faultOf("bar no 1=1;", 3, 4);
    faultOf("bar if 1=1;", 2, 4);
    // Nine letters and more, of which the last eight, or those that 64 bits keep, would be a name or a key word.
    faultOf("zzzzzzadd 1;", 2, 0);
    faultOf("zzzzzzzzzzzzzadd 1;", 2, 0);
    faultOf("add zzzzzzzzzzzzzsize;", 3, 4);
    faultOf("add zzzzzzzzzzzzza;", 3, 4);
    faultOf("add zzzzzzzzzzzzzadd;", 3, 4);
  }

  private static void namesInTexts() {
    CabinPeace c = new CabinPeace();
    String[] names = {"a", "z", "zz", "abcdefgh", "zzzzzzzz", "adds"};
    for (String name : names) { c.person(Check.name(name), 0); }
    for (int p = 0; p < names.length; p++) {
      T.fine(11, "the name " + names[p], c, Check.wish(c, 0, "add 5*" + names[p] + ";"), 1);
      for (int q = 1; q < names.length; q++) { T.fine(13, names[p], c, c.worth(0, 1 | 1 << q), p == 0 || p == q ? 5 : 0); }
    }
    for (String word : new String[] {"b", "y", "zzz", "abcdefg", "abcdefghi", "bcdefgh", "zzzzzzz", "zzzzzzzzz", "addss"}) {
      T.none(11, "no name: " + word, c, Check.wish(c, 0, "add 5*" + word + ";"), 9);
      T.due(12, "no name: " + word, c.fault(0) * 100 + c.fault(1), 306);
    }
    // A name that comes later does not mend a wish that was refused, but may stand in the next one.
    T.none(11, "not there yet", c, Check.wish(c, 0, "add 3*b;"), 9);
    T.fine(7, "now it is", c, c.person(Check.name("b"), 0), 6);
    T.fine(13, "the wish is the old one", c, c.worth(0, 1 | 64), 0);
    T.fine(11, "the next one", c, Check.wish(c, 0, "add 3*b;"), 1);
    T.fine(13, "with b", c, c.worth(0, 1 | 64), 3);
  }

  private static void sayings() {
    for (int many = 0; many <= 12; many++) {
      CabinPeace c = Check.people(1);
      T.fine(11, many + " sayings", c, Check.wish(c, 0, "add 1;".repeat(many)), many);
      T.fine(13, many + " sayings", c, c.worth(0, 1), many);
      if (many > 0) { T.none(33, "a saying more than there are", c, c.gain(0, 0, many), 1); }
      if (many > 0) { T.fine(33, "the last one", c, c.gain(0, 0, many - 1), 0); }
    }
    faultOf("add 1;".repeat(13), 4, 72);
    faultOf("add 1;".repeat(14), 4, 72);
    faultOf("bar 1=2;".repeat(12), 0, -1);
    faultOf("bar 1=2;".repeat(13), 4, 96);
    faultOf("add 1;".repeat(12) + "bar 1=1;", 4, 72);
    faultOf("bar 1=2;".repeat(12) + " \n add 1;", 4, 99);
    faultOf("add 1;".repeat(12) + "add", 4, 72);
    faultOf("add 1;".repeat(12) + "adds", 2, 72);
    faultOf("add 1;".repeat(12) + "adds 1;", 2, 72);
    faultOf("add 1;".repeat(12) + ";", 2, 72);
    faultOf("add 1;".repeat(12) + "12345", 1, 72);
    faultOf("add 1;".repeat(12) + "1234", 2, 72);
    faultOf("add 1;".repeat(12) + " \n ", 0, -1);
    faultOf("add 1;".repeat(11) + "add 1", 2, 71);
  }

  private static void brackets() {
    for (int deep = 0; deep <= 6; deep++) { worthOf("add " + "(".repeat(deep) + "7" + ")".repeat(deep) + ";", 7); }
    worthOf("add ((((((1)+1)+1)+1)+1)+1);", 6);
    worthOf("add (1+(1+(1+(1+(1+(1+1))))));", 7);
    worthOf("add 2*(3-(2*(3-(2*(3-1)))));", 10);
    worthOf("add ((((((2))))))*((((((3))))));", 6);
    worthOf("add 1 if ((((((2))))))=((((((2))))));", 1);
    faultOf("add (((((((7)))))));", 5, 10);
    faultOf("add ((((((((7))))))));", 5, 10);
    faultOf("add (((((( \n (7)))))));", 5, 13);
    faultOf("add ((((((1)))))+(((((1+(2)))))));", 5, 22 + 2);
    faultOf("add ((((((1)+(1))))));", 0, -1);
    faultOf("add ((((((1+(1)))))));", 5, 12);
    faultOf("add ((((((1*(1)))))));", 5, 12);
    faultOf("bar 1<(((((((7)))))));", 5, 12);
    faultOf("bar (((((((7)))))))<1;", 5, 10);
    faultOf("bar not (((((((7)))))))<1;", 5, 14);
    faultOf("add 1 if 1=1 and 1=(((((((7)))))));", 5, 25);
    faultOf("add 1 if 1=1 or 1=(((((((7)))))));", 5, 24);
    // Where no bracket can stand at all it is of kind 2, however deep.
    faultOf("add ((((((1(", 2, 11);
    faultOf("add ((((((1)))))", 2, 16);
    faultOf("add ((((((1)))))))", 2, 17);
    faultOf("add ((((((", 2, 10);
    faultOf("add ((((((;", 2, 10);
    faultOf("add ((((((~", 1, 10);
    faultOf("add ((((((zoe", 3, 10);
  }

  private static void firstAlongTheText() {
    faultOf("add ~ zoe (((((((", 1, 4);
    faultOf("add zoe ~", 3, 4);
    faultOf("add (((((((~", 5, 10);
    faultOf("add 1 2 ~", 2, 6);
    faultOf("add 1; zoe ~", 2, 7);
    faultOf("add 1; add zoe; add 12345;", 3, 11);
    faultOf("add 1; add 12345; add zoe;", 1, 11);
    faultOf("add 1;".repeat(12) + "add zoe ~", 4, 72);
    faultOf("add 1;".repeat(12) + "bar (((((((", 4, 72);
    faultOf("add 1;".repeat(11) + "add zoe; add 1;", 3, 70);
    faultOf("add 1;".repeat(11) + "add (((((((1; add 1;", 5, 76);
  }

  private static void leastKindOfOneToken() {
    // A word that is no name, where no atom can begin, is of kind 2; the first of a thirteenth saying that is none too.
    faultOf("add 1 zoe;", 2, 6);
    faultOf("zoe", 2, 0);
    faultOf("add 1;".repeat(12) + "zoe", 2, 72);
    faultOf("add 1;".repeat(12) + "(", 2, 72);
    // A number of five digits is of kind 1 wherever it stands.
    faultOf("add (((((( 12345", 1, 11);
    faultOf("add 1;".repeat(12) + " 12345 ", 1, 73);
  }

  private static void endOfText() {
    faultOf("add", 2, 3);
    faultOf("add ", 2, 4);
    faultOf("add 1", 2, 5);
    faultOf("add 1 \n", 2, 7);
    faultOf("add 1+", 2, 6);
    faultOf("add 1*", 2, 6);
    faultOf("add (", 2, 5);
    faultOf("add (1", 2, 6);
    faultOf("add (1)", 2, 7);
    faultOf("add 1 if", 2, 8);
    faultOf("add 1 if not", 2, 12);
    faultOf("add 1 if 1", 2, 10);
    faultOf("add 1 if 1=", 2, 11);
    faultOf("add 1 if 1=1", 2, 12);
    faultOf("add 1 if 1=1 and", 2, 16);
    faultOf("add 1 if 1=1 or", 2, 15);
    faultOf("bar", 2, 3);
    faultOf("bar 1", 2, 5);
    faultOf("bar 1=1", 2, 7);
    faultOf("add 1;;", 2, 6);
  }

  /** A text that is fine, cut off anywhere: it is fine at its sayings' ends alone, else the end is the fault, or a token that was cut. */
  private static void everyEnd() {
    String text = "add 3*(a-b)+size if not kin<2 and a=1 or b>0;\nbar 1=(((a)));";
    int firstEnd = text.indexOf(';') + 1;
    for (int n = 0; n <= text.length(); n++) {
      CabinPeace c = Check.people(2);
      Check.feed(c, text);
      int sayings = c.wish(0, n);
      boolean fine = n == 0 || n == firstEnd || n == firstEnd + 1 || n == text.length();
      T.due(11, "the first " + n + " bytes", sayings, !fine ? -1 : n == 0 ? 0 : n == text.length() ? 2 : 1);
      boolean cutWord = !fine && Character.isLetter(text.charAt(n - 1)) && n < text.length() && Character.isLetter(text.charAt(n));
      int begin = n;
      while (cutWord && begin > 0 && Character.isLetter(text.charAt(begin - 1))) { begin--; }
      String word = text.substring(begin, n);
      boolean atom = "size not kin".contains(word) && cutWord && text.startsWith("size", begin) | text.startsWith("not", begin) | text.startsWith("kin", begin);
      T.due(12, "the fault of the first " + n, c.fault(0), fine ? 0 : atom ? 3 : 2);
      T.due(12, "its place", c.fault(1), fine ? -1 : cutWord ? begin : n);
    }
  }
}
