/** Promises 33 to 37. */
public final class RestTest {
  private static final Check T = new Check("RestTest");

  public static void main(String[] args) {
    gain();
    gainOfBars();
    gainOfKin();
    weeks();
    weeksOfKin();
    week();
    goes();
    goesOrder();
    gone();
    T.end();
  }

  private static void gain() {
    CabinPeace c = Check.chase();
    T.fine(33, "a has b; without the word it has c: a -1 that is no NONE", c, c.gain(3, 0, 0), -1);
    T.fine(33, "without the other word it has b still", c, c.gain(3, 0, 1), 0);
    T.none(33, "no peace with all", c, c.gain(4, 0, 0), 6);
    T.none(33, "kind -1", c, c.gain(-1, 0, 0), 1);
    T.none(33, "kind 6", c, c.gain(6, 0, 0), 1);
    T.none(33, "person 3", c, c.gain(3, 3, 0), 1);
    T.none(33, "person -1", c, c.gain(3, -1, 0), 1);
    T.none(33, "saying 2", c, c.gain(3, 0, 2), 1);
    T.none(33, "saying -1", c, c.gain(3, 0, -1), 1);
    T.none(33, "1 ahead of 6", c, c.gain(4, 0, 2), 1);
    T.fine(33, "all is as before", c, c.worth(0, 3), 2);
    Check.wish(c, 2, "");
    T.none(33, "no such saying now", c, c.gain(3, 2, 0), 1);
    c = Check.people(3);
    c.sizes(3);
    Check.wish(c, 0, "add 2*b; add c; add 0-5 if c=1;");
    Check.wish(c, 1, "add 2*c; add a;");
    Check.wish(c, 2, "add 2*a; add b;");
    T.fine(33, "there is peace, as a does not want c", c, c.count(4), 1);
    T.none(33, "without that there is none", c, c.gain(4, 0, 2), 6);
  }

  private static void gainOfBars() {
    CabinPeace c = Check.people(2);
    Check.wish(c, 0, "add 7; bar b=1;");
    T.fine(33, "alone 7; then with b, which it bars", c, c.gain(4, 0, 1), -1000007);
    T.fine(33, "no change", c, c.gain(4, 0, 0), 0);
    T.fine(33, "in kind 5 it is with b both times", c, c.gain(5, 0, 1), 0);
    Check.wish(c, 0, "add 1; add 5*b;");
    Check.wish(c, 1, "add 3; bar a=1;");
    T.fine(33, "b has nothing of it", c, c.gain(4, 1, 1), -1000003);
    T.fine(33, "alone, as b bars it", c, c.gain(4, 0, 1), 0);
    Check.wish(c, 1, "add 0-3 if a=1; add 4*a;");
    T.fine(33, "with a 1; then alone", c, c.gain(4, 1, 1), -1);
    Check.wish(c, 0, "add 3 if size=1; add b if size=2;");
    Check.wish(c, 1, "");
    T.fine(33, "alone 3; then with b 1", c, c.gain(4, 0, 0), -2);
    Check.wish(c, 0, "add 3 if size=1; add 0-9 if size=1;");
    T.fine(33, "with b 0; then alone 0-6", c, c.gain(4, 0, 1), -6);
  }

  /** a is with its kin for 5; without that word it would rather be alone for 3, which is then worth 3 against 1. */
  private static void gainOfKin() {
    CabinPeace c = new CabinPeace();
    c.person(1, 4);
    c.person(2, 4);
    c.person(3, 0);
    Check.wish(c, 0, "add 4*kin; add 3 if size=1; add 1 if size=2;");
    c.must(0, 2, false);
    T.fine(33, "with b 5; then alone 3", c, c.gain(4, 0, 0), -2);
    T.fine(33, "with b both times", c, c.gain(4, 0, 1), 0);
    Check.wish(c, 0, "add 4*c; add 2*kin; add 1 if size=1;");
    T.fine(33, "with b 2; then alone 1", c, c.gain(4, 0, 1), -1);
  }

  private static void weeks() {
    CabinPeace c = Check.people(4);
    c.sizes(2);
    T.fine(34, "three weeks in twos", c, c.weeks(4, 3), 3);
    T.fine(35, "the first", c, c.week(0), 0);
    T.fine(35, "the second", c, c.week(1), 1);
    T.fine(35, "the third", c, c.week(2), 2);
    T.none(35, "no fourth", c, c.week(3), 6);
    T.none(34, "four weeks", c, c.weeks(4, 4), 6);
    T.fine(35, "the latest with 0", c, c.week(2), 2);
    T.none(34, "many 0", c, c.weeks(4, 0), 1);
    T.none(34, "many 6", c, c.weeks(4, 6), 1);
    T.none(34, "kind -1", c, c.weeks(-1, 1), 1);
    T.none(34, "kind 6", c, c.weeks(6, 1), 1);
    c.sizes(2 | 8);
    T.fine(34, "all four can't stand ahead of two weeks", c, c.weeks(4, 2), 4);
    T.fine(35, "the first", c, c.week(0) * 10 + c.week(1), 12);
    T.none(35, "two weeks alone", c, c.week(2), 6);
    T.fine(34, "one week", c, c.weeks(4, 1), 4);
    T.fine(35, "all four", c, c.week(0), 0);
    c.sizes(255);
    T.fine(34, "five weeks", c, c.weeks(0, 5), 15);
    T.fine(35, "all four", c, c.week(0), 0);
    for (int k = 1; k < 5; k++) { T.fine(35, "each alone, and again", c, c.week(k), 14); }
    c.must(0, 1, true);
    T.none(34, "a and b always", c, c.weeks(0, 2), 6);
    T.fine(34, "once", c, c.weeks(0, 1), 5);
    c.must(0, 1, false);
    T.none(34, "no partings", c, c.weeks(0, 1), 6);
    c = new CabinPeace();
    T.fine(34, "nobody", c, c.weeks(2, 5), 1);
    T.fine(35, "nobody", c, c.week(4), 0);
    c = Check.people(8);
    c.sizes(2);
    T.fine(34, "eight in twos", c, c.weeks(1, 5), 105);
    T.fine(35, "the first", c, c.week(0), 0);
    c.sizes(8);
    T.none(34, "eight in fours: some share twice", c, c.weeks(1, 2), 6);
  }

  private static void weeksOfKin() {
    CabinPeace c = new CabinPeace();
    c.person(1, 5);
    c.person(2, 5);
    c.person(3, 0);
    c.person(4, 0);
    c.must(0, 1, true);
    T.fine(34, "kin may share again", c, c.weeks(0, 2), 5);
    T.fine(35, "all four, then {ab}{c}{d}", c, c.week(0) * 10 + c.week(1), 4);
    c.must(2, 3, true);
    T.none(34, "those without kin may not", c, c.weeks(0, 2), 6);
    c = new CabinPeace();
    for (int p = 0; p < 3; p++) { c.person(p + 1, 9); }
    T.fine(34, "all of one kin", c, c.weeks(0, 5), 5);
    for (int k = 0; k < 5; k++) { T.fine(35, "the first again", c, c.week(k), 0); }
  }

  private static void week() {
    CabinPeace c = Check.people(3);
    T.none(35, "none yet", c, c.week(0), 6);
    T.none(35, "below 0", c, c.week(-1), 1);
    c.weeks(0, 6);
    T.none(35, "none yet", c, c.week(0), 6);
    c.weeks(0, 3);
    c.sizes(1);
    c.person(4, 0);
    T.fine(35, "as it was then", c, c.week(2), 4);
    T.none(35, "far", c, c.week(Integer.MAX_VALUE), 6);
    T.none(35, "below 0", c, c.week(Integer.MIN_VALUE), 1);
  }

  private static void goes() {
    CabinPeace c = Check.chase();
    Check.tell(c, 0, "001");
    T.none(36, "kind -1", c, c.goes(0, -1, 0), 1);
    T.none(36, "kind 6", c, c.goes(0, 6, 0), 1);
    T.none(36, "person 3", c, c.goes(0, 4, 3), 1);
    T.none(36, "person -1", c, c.goes(0, 4, -1), 1);
    T.none(36, "tray 4", c, c.goes(4, 4, 0), 1);
    T.none(36, "1 ahead of 2", c, c.goes(1, 4, 3), 1);
    T.none(36, "missing", c, c.goes(1, 4, 0), 2);
    Check.tell(c, 1, "09");
    T.none(36, "too few", c, c.goes(1, 4, 0), 3);
    Check.tell(c, 1, "000");
    T.none(36, "not lawful", c, c.goes(1, 4, 0), 1);
    T.none(37, "none yet", c, c.gone(1), 6);
    T.fine(36, "b comes to c: both are moved", c, c.goes(0, 4, 0), 2);
    T.fine(37, "b", c, c.gone(1), 0);
    T.fine(37, "c", c, c.gone(2), 0);
    T.none(37, "who goes has none", c, c.gone(0), 6);
    T.fine(36, "the tray stays", c, Check.told(c, 0, 3), 1001);
    T.fine(36, "c goes: a and b stay", c, c.goes(0, 4, 2), 0);
    T.fine(37, "a and b", c, c.gone(0) + c.gone(1), 0);
    T.none(37, "who goes has none", c, c.gone(2), 6);
    Check.tell(c, 0, "770");
    T.fine(36, "other numbers tell the same", c, c.goes(0, 3, 2), 0);
    c.sizes(2);
    c.person(4, 0);
    Check.tell(c, 0, "0011");
    T.none(36, "three can't be twos", c, c.goes(0, 4, 3), 6);
    T.fine(37, "the latest with 0", c, c.gone(0), 0);
    T.none(37, "one who came later", c, c.gone(3), 6);
  }

  private static void goesOrder() {
    CabinPeace c = Check.people(4);
    Check.tell(c, 0, "0101");
    T.fine(36, "nobody is moved", c, c.goes(0, 0, 1), 0);
    T.fine(37, "a and c, then d", c, 100 * c.gone(0) + 10 * c.gone(2) + c.gone(3), 1);
    c.sizes(1 | 4);
    Check.tell(c, 0, "0123");
    T.fine(36, "all stay alone", c, c.goes(0, 0, 0), 0);
    T.fine(37, "numbered from 0", c, 100 * c.gone(1) + 10 * c.gone(2) + c.gone(3), 12);
    c.sizes(2 | 8);
    Check.tell(c, 0, "0000");
    T.none(36, "three in twos or fours", c, c.goes(0, 0, 0), 6);
    c = Check.people(5);
    c.sizes(2 | 16);
    Check.tell(c, 0, "00000");
    T.fine(36, "four in twos: all are moved, and the first is taken", c, c.goes(0, 5, 4), 4);
    T.fine(37, "{ab}{cd}", c, 1000 * c.gone(0) + 100 * c.gone(1) + 10 * c.gone(2) + c.gone(3), 11);
    c.must(0, 1, false);
    c.sizes(2 | 1);
    Check.tell(c, 0, "01102");
    T.fine(36, "nobody is moved", c, c.goes(0, 5, 4), 0);
    T.fine(37, "{ad}{bc}", c, 1000 * c.gone(0) + 100 * c.gone(1) + 10 * c.gone(2) + c.gone(3), 110);
    c = Check.people(3);
    c.must(0, 1, true);
    Check.wish(c, 0, "add 1 if size=1;");
    Check.tell(c, 0, "001");
    T.fine(36, "musts with who goes do not count", c, c.goes(0, 0, 1), 0);
    T.fine(37, "a alone", c, c.gone(0) * 10 + c.gone(2), 1);
    Check.wish(c, 0, "add 9*b; add 1*c;");
    T.fine(36, "a goes to c for lack of b", c, c.goes(0, 4, 1), 0);
    Check.wish(c, 2, "add 1*a;");
    T.fine(36, "as c wants it too", c, c.goes(0, 4, 1), 2);
  }

  private static void gone() {
    CabinPeace c = Check.people(2);
    T.none(37, "person 2", c, c.gone(2), 1);
    T.none(37, "person -1", c, c.gone(-1), 1);
    T.none(37, "none yet", c, c.gone(0), 6);
    Check.tell(c, 0, "01");
    c.goes(0, 0, 0);
    c.sizes(2);
    c.goes(0, 0, 1);
    T.fine(37, "as it was then", c, c.gone(1), 0);
    T.none(37, "who goes", c, c.gone(0), 6);
    c = Check.people(1);
    c.tray(0, 0, 1);
    T.fine(36, "the only one", c, c.goes(0, 4, 0), 0);
    T.none(37, "has none", c, c.gone(0), 6);
  }
}
