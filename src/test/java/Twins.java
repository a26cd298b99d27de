import java.util.function.Supplier;

/** Two objects made ready alike; one of them does a call more. What can be seen of both must be the same then. */
final class Twins {
  private static final int PARTS = 4;
  /** The part that a wish with a fault may change. */
  private static final int FAULT = 3;

  private Twins() { }

  /** A call that is refused: its answer, its STATUS, and that nothing else is changed. */
  static void refused(Check t, int promise, Supplier<CabinPeace> state, int why, String name, long... x) {
    String what = told(name, x);
    for (int part = 0; part < PARTS; part++) {
      CabinPeace c = state.get();
      boolean answersBoolean = "tray write pour sizes must step".contains(name);
      t.due(promise, what, Both.on(c, name, x), answersBoolean ? 0 : Check.NONE);
      t.due(promise, "status() after " + what, c.status(), why);
      t.due(promise, "nothing changed by " + what, seen(c, part).equals(seen(state.get(), part)), true);
    }
  }

  /** A call that only asks: STATUS 0, an answer, and that nothing else is changed. */
  static void asked(Check t, int promise, Supplier<CabinPeace> state, long want, String name, long... x) {
    String what = told(name, x);
    for (int part = 0; part < PARTS; part++) {
      CabinPeace c = state.get();
      t.due(promise, what, Both.on(c, name, x), want);
      t.due(promise, "status() after " + what, c.status(), 0);
      t.due(promise, "nothing changed by " + what, seen(c, part).equals(seen(state.get(), part)), true);
    }
  }

  /** A wish with a fault: the tape is empty then, and nothing else is changed but what fault() tells. */
  static void faulty(Check t, Supplier<CabinPeace> state, int person, int n, int withoutWish) {
    for (int part = 0; part < FAULT; part++) {
      CabinPeace c = state.get();
      t.due(11, "wish() with a fault", c.wish(person, n), Check.NONE);
      t.due(11, "status() after it", c.status(), 9);
      // An empty wish of one who has an empty one changes nothing but the tape.
      CabinPeace twin = state.get();
      twin.wish(withoutWish, 0);
      t.due(11, "nothing else is changed by a fault", seen(c, part).equals(seen(twin, part)), true);
    }
  }

  static String told(String name, long... x) {
    StringBuilder b = new StringBuilder(name).append('(');
    for (int i = 0; i < x.length; i++) { b.append(i > 0 ? ", " : "").append(x[i]); }
    return b.append(')').toString();
  }

  /** A part of all that can be seen of an object; it is used up by it. */
  static String seen(CabinPeace c, int part) {
    StringBuilder b = new StringBuilder();
    if (part == 0) {
      seeRows(c, b);
      seeTape(c, b);
    } else if (part == 1) {
      for (int g = 0; g < 256; g++) { add(b, c.lawful(g)); }
      for (int kind = -1; kind < 6; kind++) { add(b, c.count(kind)); }
      for (int kind = 0; kind < 6; kind++) { add(b, c.near(kind)); }
    } else if (part == FAULT) {
      add(b, c.fault(0));
      add(b, c.fault(1));
    } else {
      for (int p = 0; p < 8; p++) {
        for (int g = 1 << p; g < 256; g += g < 16 ? 1 : 37) {
          add(b, c.worth(p, g | 1 << p));
          add(b, c.bars(p, g | 1 << p));
        }
        add(b, c.room(5, 0, p));
        add(b, c.rather(p, 1 << p, 15 | 1 << p));
        add(b, c.rather(p, 15 | 1 << p, 1 << p));
        for (int s = 0; s < 3; s++) { add(b, c.gain(5, p, s)); }
      }
    }
    return b.toString();
  }

  private static void seeRows(CabinPeace c, StringBuilder b) {
    for (int t = 0; t < 4; t++) {
      for (int place = 0; place < 60; place++) {
        add(b, c.read(t, place));
        if (c.status() != 0) {
          add(b, c.status());
          break;
        }
      }
      // A pour of no numbers tells the sort of a tray: it is refused with 8 or 2, or fine.
      for (int other = 0; other < 4; other++) {
        c.pour(t, 0, other, 0, 0);
        add(b, c.status());
      }
    }
    for (int what = 0; what < 3; what++) { add(b, c.ran(what)); }
    for (int k = 0; k < 6; k++) { add(b, c.week(k)); }
    for (int p = 0; p < 8; p++) { add(b, c.gone(p)); }
  }

  /** How many bytes the tape has, which they are as far as a wish tells them, and how many people and musts there are. */
  private static void seeTape(CabinPeace c, StringBuilder b) {
    int had = c.feed(0x7e7e7e7e, 0, 0, 0, 0);
    add(b, had);
    add(b, c.wish(0, Math.max(0, had)));
    add(b, c.fault(0));
    add(b, c.fault(1));
    add(b, c.worth(0, 1));
    for (int i = 0; i < 13; i++) { add(b, c.must(0, 1, true) ? 1 : 0); }
    for (int i = 0; i < 9; i++) { add(b, c.person(Check.name("qqqq") + i, 0)); }
  }

  private static void add(StringBuilder b, long v) { b.append(v).append(' '); }
}
