/** Promises 1 to 6. */
public final class TraysTest {
  private static final Check T = new Check("TraysTest");

  public static void main(String[] args) {
    newObject();
    status();
    tray();
    write();
    pour();
    pourRefused();
    T.end();
  }

  private static void newObject() {
    CabinPeace c = new CabinPeace();
    T.due(1, "NONE", CabinPeace.NONE, -1);
    T.due(1, "status() of a new object", c.status(), 0);
    for (int t = 0; t < 4; t++) {
      c = new CabinPeace();
      T.none(1, "read() of a new tray", c, c.read(t, 0), 2);
    }
    c = new CabinPeace();
    T.none(1, "worth() without people", c, c.worth(0, 1), 1);
    T.due(1, "fault(0)", c.fault(0), -1);
    T.due(1, "fault(1)", c.fault(1), -1);
    T.fine(1, "count(NONE) without people", c, c.count(-1), 1);
    T.none(1, "ran()", c, c.ran(0), 6);
    T.none(1, "week()", c, c.week(0), 6);
    T.due(1, "the first person", c.person(1, 0), 0);
    T.none(1, "gone()", c, c.gone(0), 6);
    T.none(1, "the tape is empty", c, c.wish(0, 1), 1);
    T.due(1, "feed", c.feed(0, 0, 0, 0, 0), 20);
    c = Check.people(8);
    for (int g = 1; g < 256; g++) { T.due(1, "lawful() with sizes 255, no musts", c.lawful(g), 1); }
  }

  private static void status() {
    CabinPeace c = new CabinPeace();
    c.read(0, 0);
    T.due(2, "status()", c.status(), 2);
    T.due(2, "status() again", c.status(), 2);
    c.feed(1, 2, 3, 4, 5);
    c.fault(0);
    c.fault(7);
    T.due(2, "status() behind feed() and fault()", c.status(), 2);
    c.tray(0, 0, 1);
    T.due(2, "status()", c.status(), 0);
    c.week(-1);
    T.due(2, "status()", c.status(), 1);
  }

  private static void tray() {
    CabinPeace c = new CabinPeace();
    T.no(3, "tray(-1, 0, 0)", c, c.tray(-1, 0, 0), 1);
    T.no(3, "tray(4, 0, 0)", c, c.tray(4, 0, 0), 1);
    T.no(3, "tray(0, -1, 0)", c, c.tray(0, -1, 0), 1);
    T.no(3, "tray(0, 4, 0)", c, c.tray(0, 4, 0), 1);
    T.no(3, "tray(0, 0, -1)", c, c.tray(0, 0, -1), 1);
    T.no(3, "tray(0, 0, 61)", c, c.tray(0, 0, 61), 1);
    T.none(3, "it is missing still", c, c.read(0, 0), 2);
    T.yes(3, "tray(0, 3, 0)", c, c.tray(0, 3, 0));
    T.none(3, "a tray without places", c, c.read(0, 0), 3);
    T.yes(3, "tray(3, 3, 60)", c, c.tray(3, 3, 60));
    T.fine(3, "read(3, 59)", c, c.read(3, 59), 0);
    c.write(3, 59, 5);
    c.write(3, 0, 6);
    T.yes(3, "tray(3, 3, 60)", c, c.tray(3, 3, 60));
    T.fine(3, "read(3, 59)", c, c.read(3, 59), 0);
    T.fine(3, "read(3, 0)", c, c.read(3, 0), 0);
    c.write(3, 0, 6);
    c.tray(3, 9, 1);
    T.fine(3, "a tray refused stays", c, c.read(3, 0), 6);
  }

  private static void write() {
    CabinPeace c = new CabinPeace();
    T.no(4, "write(4, 0, 0)", c, c.write(4, 0, 0), 1);
    T.no(4, "write(-1, 0, 0)", c, c.write(-1, 0, 0), 1);
    T.no(4, "write(2, 0, 0)", c, c.write(2, 0, 0), 2);
    T.none(5, "read(4, 0)", c, c.read(4, 0), 1);
    T.none(5, "read(-1, 0)", c, c.read(-1, 0), 1);
    long[] wide = {0x1122334455667788L, -1, 127, 128, 300, 40000, 3000000000L, Long.MIN_VALUE};
    for (int sort = 0; sort < 4; sort++) {
      c.tray(sort, sort, 2);
      for (long v : wide) {
        long cut = sort == 0 ? (byte) v : sort == 1 ? (short) v : sort == 2 ? (int) v : v;
        T.yes(4, "write()", c, c.write(sort, 1, v));
        T.fine(5, "read() of " + v + " in sort " + sort, c, c.read(sort, 1), cut);
        T.fine(5, "read() of the other place", c, c.read(sort, 0), 0);
      }
    }
    T.no(4, "write(0, 2, 0)", c, c.write(0, 2, 0), 3);
    T.no(4, "write(0, -1, 0)", c, c.write(0, -1, 0), 3);
    T.none(5, "read(0, 2)", c, c.read(0, 2), 3);
    T.none(5, "read(0, -1)", c, c.read(0, -1), 3);
    T.none(5, "read(0, MAX)", c, c.read(0, Integer.MAX_VALUE), 3);
    c.write(1, 0, -1);
    T.fine(5, "a -1 that is no NONE", c, c.read(1, 0), -1);
  }

  private static CabinPeace poured() {
    CabinPeace c = new CabinPeace();
    c.tray(0, 0, 6);
    c.tray(1, 0, 3);
    c.tray(2, 1, 3);
    for (int i = 0; i < 6; i++) { c.write(0, i, i + 1); }
    return c;
  }

  private static void pour() {
    CabinPeace c = poured();
    T.yes(6, "pour to another", c, c.pour(0, 2, 1, 1, 2));
    T.due(6, "what came", Check.told(c, 1, 3), 1034);
    T.due(6, "where it was", Check.told(c, 0, 6), 1123456);
    T.yes(6, "pour up within one", c, c.pour(0, 0, 0, 2, 4));
    T.due(6, "as they were", Check.told(c, 0, 6), 1121234);
    c = poured();
    T.yes(6, "pour down within one", c, c.pour(0, 2, 0, 0, 4));
    T.due(6, "as they were", Check.told(c, 0, 6), 1345656);
    T.yes(6, "none, from the end", c, c.pour(0, 6, 1, 3, 0));
    T.due(6, "nothing came", Check.told(c, 1, 3), 1000);
  }

  private static void pourRefused() {
    CabinPeace c = poured();
    int max = Integer.MAX_VALUE;
    T.no(6, "from -1", c, c.pour(-1, 0, 0, 0, 0), 1);
    T.no(6, "to 4", c, c.pour(0, 0, 4, 0, 0), 1);
    T.no(6, "place -1", c, c.pour(0, -1, 0, 0, 1), 1);
    T.no(6, "at -1", c, c.pour(0, 0, 0, -1, 1), 1);
    T.no(6, "many -1", c, c.pour(0, 0, 0, 0, -1), 1);
    T.no(6, "1 ahead of 2", c, c.pour(3, -1, 0, 0, 1), 1);
    T.no(6, "from a missing one", c, c.pour(3, 0, 0, 0, 1), 2);
    T.no(6, "to a missing one", c, c.pour(0, 0, 3, 0, 1), 2);
    T.no(6, "2 ahead of 3", c, c.pour(0, 99, 3, 0, 1), 2);
    T.no(6, "unlike sorts", c, c.pour(0, 0, 2, 0, 1), 8);
    T.no(6, "8 ahead of 3", c, c.pour(0, 99, 2, 99, 1), 8);
    T.no(6, "beyond the one", c, c.pour(0, 5, 1, 0, 2), 3);
    T.no(6, "beyond the other", c, c.pour(0, 0, 1, 2, 2), 3);
    T.no(6, "far beyond", c, c.pour(0, max, 1, max, max), 3);
    T.no(6, "far beyond", c, c.pour(0, 1, 1, 0, max), 3);
    T.due(6, "nothing moved", Check.told(c, 0, 6), 1123456);
    T.due(6, "nothing came", Check.told(c, 1, 3), 1000);
  }
}
