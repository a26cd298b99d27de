import java.util.ArrayList;
import java.util.List;

/** STEPS and RUNS (part 2 of the terms): how a run ends, at each limit, just below it and just beyond it. */
public final class EdgesOfRunsTest {
  private static final Check T = new Check("EdgesOfRunsTest");

  /** Found by trying: moves from each one alone go on for more than 200 steps till a parting comes again. */
  private static final String[] RESTLESS = {
      "add 0+36*g*f+40*e-50*h+61*g*a*d-44*g+70*e*c*h-30*c*e*c+69*a*f-27*c*c-36*g*e-72*e*d-85*a*b+70*a*d+13*"
          + "g*a*g-59*e*d+25*a*a*f+28*g-91*b*e*c+90*b-53*g*a*e+20*d*c*d+72*g+86*d*f-71*f*h*b+68*a*b*g+26*b-12*d-7"
          + "9*c*h*h-56*c*e*f+49*e+44*f-61*b*a*f+27*a+42*b+48*c-1*c+13*a*b*d-3*g*c*f-20*a*a*e-71*c-20*a;",
      "add 0+73*b*a-12*g*a-60*a-38*e-16*a*a*b-64*b*a+90*b*c*a+90*a*c*f+79*a*b-59*f*g*f-85*a*h+66*h*g*c+49*f"
          + "*c*h+38*a*a*g+25*e+60*f*a-74*c+87*g*a+84*g*a*e-21*g*b-11*g*d-19*a-17*c*h-76*d*g*e+84*h-69*g*f-35*f*a"
          + "*h-3*b*d-56*a+65*d*f*e-89*c*b+15*e-16*a+93*a*a*a-91*e*g*d-79*f*d-89*a*e*a+92*g*c+25*b*b*g;",
      "add 0-3*a*e*e-60*f*a-80*a-62*a*d-21*a*d*a-77*h*a*g-98*g*c+71*a*f+94*f+7*a+98*c-17*a*g-81*d*a+90*a*b*"
          + "c-46*e*e-25*h*b*h-76*a*h+51*h*b*a+5*h*c+83*g-65*f*a+77*f+10*g-66*f*h*e-41*c*b*d-52*e*g+35*a*b*e-41*a"
          + "*f*a-26*b*f*d-71*f*e*b+84*d*e*d-15*g+29*a*e+94*a*a-20*b*g+69*c*g*d+48*a-57*d+26*h+29*c*c*g;",
      "add 0+17*c*b*d+21*b*f+59*g*c*d-28*a*a*d-14*b+46*f*f+37*g-1*a*e*a+26*h*h+36*a*d*e+12*h+70*a-39*f+55*a"
          + "*e-96*c*a*h-37*a*b-31*g*d*g+8*h-40*f*a-82*h*d*a+90*g*a*a-94*b-51*a*g*c+60*g*e*f-58*g*b*d-23*a*e+7*d*"
          + "c*c-58*b*f-29*a*a-54*c-57*c*d*c+57*a-77*h-99*a*a+31*a*e*g+31*h+16*c*a*b+65*e*a*e-10*g*a*d-40*e;",
      "add 0+96*c*g-71*e*c-68*h*h*h+5*a*g*c+6*a*g*a+62*a+37*a*g*f-70*h*e*b+7*c*g*h+74*h-37*a-97*b*h-70*h*e*"
          + "a+97*a*d*d+43*g*a-1*d*e*c+37*c*h*h+77*f*b*h-61*a*h+77*a*a-59*f-93*g*b+93*g*h*h-73*c*e-76*h*d-79*d*e*"
          + "a+19*b*a+58*a*f*f-55*d-9*a*a+15*c*e-29*d+94*f+98*e-15*a*g+33*g*f*a-35*a+25*c*d;",
      "add 0+34*a*d-38*e*c+50*a*a-36*f-63*a-90*b*h*a-12*d*d*h-40*b*b+64*a*h-73*a*c*d-73*e-20*d*c-41*d*c+4*f"
          + "-15*d*c*h+18*a+94*e*b+84*d*b*e+53*a*h*c-8*f*b*g-24*d+43*g-36*a*b*c-85*f*f-63*h*a*e-48*b*f*a+13*b+15*"
          + "h*a*h+70*a*e+42*g*d*c-1*a*e*c-89*f*g*h-26*d*a*b+60*g*a*h+23*d*f*a-93*g+27*e*a*a;",
      "add 0-45*e-44*f*c-53*c*f-34*h*d-46*c+79*a*a+45*c*g-39*a*b-76*b*b-34*h*c*b-86*e*e*b-40*f*g*h+30*b*a*h"
          + "+7*h-11*a+14*a+35*g-14*b-25*h*d*a+26*b*h*b+37*b*b+45*e-76*c+69*c-95*f*d*f-8*d*c*d+99*c-4*a+72*h-11*g"
          + "*h*f+3*a-12*h*a+97*h*b+85*a*c*a+9*h-21*a+90*g*a*a-31*b;",
      "add 0+62*g+78*a*c-2*g*b-14*c*f-14*g*g+94*a-37*a*c*h+94*d*b+48*a*e-13*d*a*h-67*d*f*g+8*h-81*b+75*d*a-"
          + "92*d*h-68*f*a*e-97*h*b*e-80*b*g*f+93*g*a*d-22*f*h*h-46*h*c*d-73*g+88*c*a*a-65*d*h*a+45*d*g+30*b-56*a"
          + "*d*a-36*b*f*b-75*g*d*d-95*d*c+59*f*b+84*h-50*b-97*f*c*g-75*h+83*e+66*c*e;"
  };

  public static void main(String[] args) {
    longRun();
    shortRuns();
    runsAreSteps();
    endsAtMost();
    ringsOfTwo();
    ranOfLatest();
    nobody();
    T.end();
  }

  private static CabinPeace restless() {
    CabinPeace c = Check.people(8);
    for (int p = 0; p < 8; p++) { Check.wish(c, p, RESTLESS[p]); }
    return c;
  }

  private static String read(CabinPeace c, int tray, int many) {
    StringBuilder b = new StringBuilder();
    for (int i = 0; i < many; i++) { b.append(c.read(tray, i)); }
    return b.toString();
  }

  /** The partings from a told one on, step by step, up to the one that was there already or has peace. */
  private static List<String> trail(CabinPeace fresh, java.util.function.Supplier<CabinPeace> more, String from, int kind) {
    List<String> found = new ArrayList<>();
    CabinPeace c = fresh;
    int calls = 200;
    Check.tell(c, 0, from);
    String now = from;
    for (int i = 0; i < 1000; i++) {
      found.add(now);
      if (calls > 480) {
        c = more.get();
        calls = 200;
        Check.tell(c, 0, now);
      }
      calls += 12;
      if (!c.step(0, kind)) { return found; }
      now = read(c, 0, from.length());
      if (found.contains(now)) {
        found.add(now);
        return found;
      }
    }
    return found;
  }

  /** What a run from one of a trail's partings on must tell, if it may have so many steps. */
  private static void runOf(CabinPeace c, List<String> trail, int from, int kind, int most) {
    int last = trail.size() - 1;
    int again = trail.indexOf(trail.get(last));
    boolean ring = again < last;
    int steps = Math.min(most, last - from);
    // A run that begins within the ring goes round to where it began.
    int first = again < from ? from : again;
    int round = last - again;
    int toEnd = again < from ? round : last - from;
    if (ring) { steps = Math.min(most, toEnd); }
    Check.tell(c, 0, trail.get(from));
    String what = "run of at most " + most + " from step " + from;
    T.fine(20, what, c, c.run(0, kind, most), steps);
    int end = ring ? most >= toEnd ? 1 : 2 : most >= last - from ? 0 : 2;
    T.fine(21, what + ": its end", c, c.ran(0), end);
    if (end == 1) {
      T.fine(21, what + ": the first step of the ring", c, c.ran(1), first - from);
      T.fine(21, what + ": its steps", c, c.ran(2), round);
    } else {
      T.none(21, what + ": no ring", c, c.ran(1), 6);
      T.none(21, what + ": no ring", c, c.ran(2), 6);
    }
    int at = from + steps;
    String due = trail.get(at <= last ? at : again + (at - again) % round);
    T.due(20, what + ": where it is then", read(c, 0, due.length()).equals(due), true);
  }

  private static void longRun() {
    List<String> trail = trail(restless(), EdgesOfRunsTest::restless, "01234567", 1);
    int last = trail.size() - 1;
    T.due(20, "more than 200 steps", last > 200 && last < 230, true);
    int again = trail.indexOf(trail.get(last));
    T.due(20, "then a parting comes again", again < last && again > 150, true);
    for (int most : new int[] {1, 2, 199, 200}) { runOf(restless(), trail, 0, 1, most); }
    for (int from : new int[] {1, last - 201, last - 200, last - 199, again - 1, again, again + 1, last - 1}) {
      runOf(restless(), trail, from, 1, 200);
      runOf(restless(), trail, from, 1, 199);
    }
    for (int most = last - again - 1; most <= last - again + 1; most++) {
      for (int from = again - 1; from <= again + 1; from++) { runOf(restless(), trail, from, 1, most); }
    }
    CabinPeace c = restless();
    Check.tell(c, 0, "01234567");
    T.none(20, "at most 201", c, c.run(0, 1, 201), 1);
    T.due(20, "nothing is done", read(c, 0, 8).equals("01234567"), true);
  }

  private static CabinPeace shy() {
    CabinPeace c = Check.people(4);
    for (int p = 0; p < 4; p++) { Check.wish(c, p, "add 1 if size=1;"); }
    return c;
  }

  /** All four would rather be alone: three steps, then there is peace (the last one is alone without any). */
  private static void shortRuns() {
    for (int kind = 0; kind < 5; kind++) {
      List<String> trail = trail(shy(), EdgesOfRunsTest::shy, "0000", kind);
      T.due(19, "three steps of kind " + kind, trail.size(), 4);
      T.due(19, "a first", trail.get(1).equals("0111"), true);
      T.due(19, "then b", trail.get(2).equals("0122"), true);
      T.due(19, "then c", trail.get(3).equals("0123"), true);
      for (int most : new int[] {1, 2, 3, 4, 199, 200}) {
        for (int from = 0; from < 4; from++) { runOf(shy(), trail, from, kind, most); }
      }
    }
  }

  private static void runsAreSteps() {
    for (int kind = 1; kind < 6; kind++) {
      for (String from : new String[] {"00000000", "00112233", "01201201", "01234567"}) {
        List<String> trail = trail(restless(), EdgesOfRunsTest::restless, from, kind);
        int last = trail.size() - 1;
        for (int most : new int[] {1, 2, last - 1, last, last + 1, 200}) {
          if (most >= 1 && most <= 200) { runOf(restless(), trail, 0, kind, most); }
        }
      }
    }
  }

  private static void endsAtMost() {
    CabinPeace c = Check.chase();
    Check.tell(c, 0, "012");
    T.fine(20, "0 of 1: nothing to do", c, c.run(0, 0, 1), 0);
    T.fine(21, "peace", c, c.ran(0), 0);
    T.fine(20, "three of three", c, c.run(0, 4, 3), 3);
    T.fine(21, "neither: the ring closes with the fourth", c, c.ran(0), 2);
    Check.tell(c, 0, "012");
    T.fine(20, "four of four", c, c.run(0, 4, 4), 4);
    T.fine(21, "a ring", c, c.ran(0), 1);
    T.fine(21, "from the first step on", c, c.ran(1), 1);
    T.fine(21, "of three", c, c.ran(2), 3);
    Check.tell(c, 0, "012");
    T.fine(20, "four of five", c, c.run(0, 4, 5), 4);
    T.fine(21, "a ring", c, c.ran(0), 1);
  }

  /** a runs after b, b runs from a: two steps, round and round. */
  private static void ringsOfTwo() {
    CabinPeace c = Check.people(2);
    Check.wish(c, 0, "add b;");
    Check.wish(c, 1, "add 0-a;");
    Check.tell(c, 0, "77");
    T.fine(20, "b goes, a follows", c, c.run(0, 1, 200), 2);
    T.fine(21, "a ring", c, c.ran(0), 1);
    T.fine(21, "from the one told", c, c.ran(1), 0);
    T.fine(21, "of two", c, c.ran(2), 2);
    T.due(20, "where it began, numbered anew", read(c, 0, 2).equals("00"), true);
    T.fine(20, "one of one", c, c.run(0, 1, 1), 1);
    T.fine(21, "neither", c, c.ran(0), 2);
    T.due(20, "apart", read(c, 0, 2).equals("01"), true);
    T.fine(20, "from here it is a ring as well", c, c.run(0, 1, 2), 2);
    T.fine(21, "a ring", c, c.ran(0), 1);
    T.fine(21, "from the one told", c, c.ran(1), 0);
    T.due(20, "apart", read(c, 0, 2).equals("01"), true);
  }

  private static void ranOfLatest() {
    CabinPeace c = Check.chase();
    for (int what = 0; what < 3; what++) { T.none(21, "no run yet", c, c.ran(what), 6); }
    Check.tell(c, 0, "001");
    c.run(0, 4, 0);
    c.run(0, 6, 9);
    c.run(1, 4, 9);
    for (int what = 0; what < 3; what++) { T.none(21, "refused runs are none", c, c.ran(what), 6); }
    c.run(0, 4, 200);
    c.run(0, 4, 201);
    T.fine(21, "the ring stays", c, c.ran(2), 3);
    c.run(0, 0, 1);
    T.fine(21, "peace", c, c.ran(0), 0);
    T.none(21, "no ring", c, c.ran(1), 6);
    T.none(21, "no ring", c, c.ran(2), 6);
    c.run(0, 4, 1);
    T.fine(21, "neither", c, c.ran(0), 2);
    T.none(21, "no ring", c, c.ran(1), 6);
    c.step(0, 4);
    T.fine(21, "a step is no run", c, c.ran(0), 2);
    T.none(21, "1 ahead of 6", c, c.ran(3), 1);
    T.none(21, "1 ahead of 6", c, c.ran(-1), 1);
  }

  private static void nobody() {
    CabinPeace c = new CabinPeace();
    T.none(20, "missing", c, c.run(0, 4, 1), 2);
    c.tray(0, 0, 0);
    T.fine(20, "nobody, and a tray without places", c, c.run(0, 4, 200), 0);
    T.fine(21, "peace", c, c.ran(0), 0);
    T.no(19, "no step", c, c.step(0, 4), 6);
    T.none(18, "no break", c, c.first(0, 4, 0), 6);
    Check.tell(c, 0, "99");
    T.fine(20, "nobody is told by it", c, c.run(0, 4, 200), 0);
    T.due(20, "what is no part of it stays", read(c, 0, 2).equals("99"), true);
    c = Check.people(1);
    Check.tell(c, 0, "79");
    T.fine(20, "one alone", c, c.run(0, 1, 1), 0);
    T.due(20, "numbered anew, the rest stays", read(c, 0, 2).equals("09"), true);
  }
}
