/** What the tests that are decided by hand share: counting wrong answers, and objects made ready. */
final class Check {
  static final int NONE = -1;
  private final String test;
  private int wrong = 0;
  private int asked = 0;

  Check(String test) { this.test = test; }

  void due(int promise, String what, long got, long want) {
    asked++;
    if (got != want) {
      wrong++;
      System.out.println(test + ", promise " + promise + ": " + what + " answered " + got + ", due is " + want);
    }
  }

  void due(int promise, String what, boolean got, boolean want) { due(promise, what, got ? 1 : 0, want ? 1 : 0); }

  /** An answer of 0 or more, and STATUS 0. */
  void fine(int promise, String what, CabinPeace c, long got, long want) {
    due(promise, what, got, want);
    due(promise, "status() after " + what, c.status(), 0);
  }

  /** NONE, and a STATUS. */
  void none(int promise, String what, CabinPeace c, long got, int why) {
    due(promise, what, got, NONE);
    due(promise, "status() after " + what, c.status(), why);
  }

  void yes(int promise, String what, CabinPeace c, boolean got) {
    due(promise, what, got, true);
    due(promise, "status() after " + what, c.status(), 0);
  }

  void no(int promise, String what, CabinPeace c, boolean got, int why) {
    due(promise, what, got, false);
    due(promise, "status() after " + what, c.status(), why);
  }

  void end() {
    System.out.println(test + ": " + asked + " asked, " + wrong + " wrong");
    if (wrong > 0) { System.exit(1); }
  }

  static long name(String word) {
    long n = 0;
    for (int i = 0; i < word.length(); i++) { n = n << 5 | word.charAt(i) - 'a' + 1; }
    return n;
  }

  /** People a, b, c .. without kins. */
  static CabinPeace people(int many) {
    CabinPeace c = new CabinPeace();
    for (int p = 0; p < many; p++) { c.person(p + 1, 0); }
    return c;
  }

  static void feed(CabinPeace c, String text) {
    for (int i = 0; i < text.length(); i += 20) {
      int[] five = new int[5];
      for (int j = 0; j < 20; j++) {
        five[j / 4] = five[j / 4] << 8 | (i + j < text.length() ? text.charAt(i + j) & 255 : 0);
      }
      c.feed(five[0], five[1], five[2], five[3], five[4]);
    }
  }

  static int wish(CabinPeace c, int person, String text) {
    feed(c, text);
    return c.wish(person, text.length());
  }

  /** A tray of numbers of 8 bits, one for each digit. */
  static void tell(CabinPeace c, int tray, String digits) {
    c.tray(tray, 0, digits.length());
    for (int i = 0; i < digits.length(); i++) { c.write(tray, i, digits.charAt(i) - '0'); }
  }

  /** The first numbers of a tray, as digits. */
  static long told(CabinPeace c, int tray, int many) {
    long digits = 1;
    for (int i = 0; i < many; i++) { digits = digits * 10 + c.read(tray, i); }
    return digits;
  }

  /** a runs after b, b after c, c after a; at most two share: no peace of the kinds 1, 2 and 4. */
  static CabinPeace chase() {
    CabinPeace c = people(3);
    c.sizes(3);
    wish(c, 0, "add 2*b; add c;");
    wish(c, 1, "add 2*c; add a;");
    wish(c, 2, "add 2*a; add b;");
    return c;
  }

  /** a does not bear b, b does not bear to be without a. */
  static CabinPeace unhappy() {
    CabinPeace c = people(2);
    wish(c, 0, "bar b=1;");
    wish(c, 1, "bar a=0;");
    return c;
  }
}
