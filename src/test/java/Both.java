import java.util.ArrayList;
import java.util.List;

/** One program and one oracle, called alike; every answer and every status is compared. */
final class Both {
  final CabinPeace program = new CabinPeace();
  final Oracle oracle = new Oracle();
  final List<String> calls = new ArrayList<>();
  int wrong = 0;
  /** An object is used for at most 512 calls. */
  private int left = 512;

  boolean isUsedUp() { return left < 2; }

  /** NONE, and nothing is done, if no call is left. */
  long call(String name, long... x) {
    if (isUsedUp()) { return Oracle.NONE; }
    boolean hasStatus = !name.equals("feed") && !name.equals("fault") && !name.equals("status");
    long got = on(program, name, x);
    long due = oracle.call(name, x);
    int status = hasStatus ? program.status() : oracle.status();
    left -= hasStatus ? 2 : 1;
    StringBuilder line = new StringBuilder(name).append('(');
    for (int i = 0; i < x.length; i++) { line.append(i > 0 ? ", " : "").append(x[i]); }
    calls.add(line.append(") = ").append(got).append(" [").append(status).append(']').toString());
    if (got != due || status != oracle.status()) {
      wrong++;
      System.out.println("answered " + got + " with status " + status
          + ", due is " + due + " with status " + oracle.status() + ", in this run:");
      for (String call : calls) { System.out.println("  " + call); }
    }
    return due;
  }

  /** Feeds a text and makes it a wish. */
  long wish(int person, String text) {
    for (int i = 0; i < text.length(); i += 20) {
      long[] five = new long[5];
      for (int j = 0; j < 20; j++) {
        int b = i + j < text.length() ? text.charAt(i + j) & 255 : 0;
        five[j / 4] = (int) (five[j / 4] << 8 | b);
      }
      call("feed", five);
    }
    long answer = call("wish", person, text.length());
    calls.add("  that was: " + text);
    call("fault", 0);
    call("fault", 1);
    return answer;
  }

  static long on(CabinPeace c, String name, long... x) {
    int[] a = new int[x.length];
    for (int i = 0; i < x.length; i++) { a[i] = (int) x[i]; }
    switch (name) {
      case "status": return c.status();
      case "tray": return c.tray(a[0], a[1], a[2]) ? 1 : 0;
      case "write": return c.write(a[0], a[1], x[2]) ? 1 : 0;
      case "read": return c.read(a[0], a[1]);
      case "pour": return c.pour(a[0], a[1], a[2], a[3], a[4]) ? 1 : 0;
      case "person": return c.person(x[0], a[1]);
      case "sizes": return c.sizes(a[0]) ? 1 : 0;
      case "must": return c.must(a[0], a[1], a[2] != 0) ? 1 : 0;
      case "feed": return c.feed(a[0], a[1], a[2], a[3], a[4]);
      case "wish": return c.wish(a[0], a[1]);
      case "fault": return c.fault(a[0]);
      case "worth": return c.worth(a[0], a[1]);
      case "bars": return c.bars(a[0], a[1]);
      case "rather": return c.rather(a[0], a[1], a[2]);
      case "lawful": return c.lawful(a[0]);
      case "breaks": return c.breaks(a[0], a[1]);
      case "first": return c.first(a[0], a[1], a[2]);
      case "step": return c.step(a[0], a[1]) ? 1 : 0;
      case "run": return c.run(a[0], a[1], a[2]);
      case "ran": return c.ran(a[0]);
      case "count": return c.count(a[0]);
      case "room": return c.room(a[0], a[1], a[2]);
      case "sum": return c.sum(a[0], a[1]);
      case "together": return c.together(a[0], a[1], a[2]);
      case "knot": return c.knot(a[0]);
      case "near": return c.near(a[0]);
      case "nearRoom": return c.nearRoom(a[0], a[1]);
      case "bear": return c.bear(a[0]);
      case "mend": return c.mend(a[0], a[1]);
      case "sort": return c.sort(a[0]);
      case "greedy": return c.greedy(a[0]);
      case "gain": return c.gain(a[0], a[1], a[2]);
      case "weeks": return c.weeks(a[0], a[1]);
      case "week": return c.week(a[0]);
      case "goes": return c.goes(a[0], a[1], a[2]);
      case "gone": return c.gone(a[0]);
      default: throw new IllegalStateException(name);
    }
  }
}
