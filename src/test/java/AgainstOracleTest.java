import java.util.Random;

/** Random runs of calls, the program beside the oracle. As args: the source file (not used), the first seed, how many, people at most. */
public final class AgainstOracleTest {
  private static final String[] NAMES = {"a", "b", "cc", "d", "eve", "sizes", "kim", "zzzzzzzz"};

  private final Random random;
  private final Both both = new Both();
  private final int most;
  private int many = 0;
  private int kindly = 0;

  private AgainstOracleTest(long seed, int most) {
    random = new Random(seed);
    this.most = most;
  }

  public static void main(String[] args) {
    long seed = args.length > 1 ? Long.parseLong(args[1]) : 1;
    long runs = args.length > 2 ? Long.parseLong(args[2]) : 1500;
    int wrong = 0;
    long calls = 0;
    for (long s = seed; s < seed + runs && wrong < 3; s++) {
      int most = args.length > 3 ? Integer.parseInt(args[3]) : s % 100 == 50 ? 8 : s % 50 == 0 ? 7 : s % 5 == 0 ? 6 : 5;
      AgainstOracleTest run = new AgainstOracleTest(s, most);
      if (s % 20 == 7 && args.length < 4) {
        run.playLongRuns();
      } else if (s % 5 == 3 && args.length < 4) {
        run.playAtTheEdges();
      } else {
        run.play();
      }
      calls += run.both.calls.size();
      if (run.both.wrong > 0) {
        wrong++;
        System.out.println("seed " + s);
      }
    }
    System.out.println(runs + " runs, " + calls + " calls beside the oracle, " + wrong + " wrong");
    if (wrong > 0) { System.exit(1); }
  }

  private int pick(int n) { return random.nextInt(n); }

  private boolean chance(int percent) { return pick(100) < percent; }

  private void play() {
    int start = chance(10) ? pick(3) : 2 + pick(most - 1);
    int kins = chance(50) ? 1 : 3;
    for (int i = 0; i < start; i++) { addPerson(kins); }
    if (chance(40)) { both.call("sizes", sizesSet()); }
    for (int i = chance(40) ? pick(4) : 0; i > 0; i--) { must(); }
    kindly = pick(11);
    for (int p = 0; p < many; p++) { if (chance(90)) { wishFor(p); } }
    for (int t = 0; t < 3; t++) { tellSome(t); }
    int calls = 100 + pick(150);
    for (int i = 0; i < calls && both.wrong == 0 && !both.isUsedUp(); i++) { ask(); }
  }

  /** Eight people with worths that look like chance: runs of many steps, with rings far behind the start. */
  private void playLongRuns() {
    for (int i = 0; i < 8; i++) { addPerson(1); }
    for (int p = 0; p < 8; p++) {
      StringBuilder b = new StringBuilder("add 0");
      while (b.length() < 160 + pick(110)) {
        b.append(chance(50) ? '+' : '-').append(pick(1000));
        for (int i = 1 + pick(3); i > 0; i--) { b.append('*').append(NAMES[pick(7)]); }
      }
      both.wish(p, b.append(';').toString());
    }
    for (int i = 0; i < 25 && both.wrong == 0 && !both.isUsedUp(); i++) {
      both.call("tray", 0, pick(4), 8);
      for (int p = 0; p < 8; p++) { both.call("write", 0, p, pick(8)); }
      both.call("pour", 0, 0, 0, 0, 8);
      int kind = chance(70) ? 1 : pick(6);
      both.call("breaks", 0, kind);
      both.call("first", 0, kind, pick(2));
      both.call("run", 0, kind, chance(70) ? 200 : 1 + pick(20));
      for (int what = 0; what < 3; what++) { both.call("ran", what); }
      readAll(0);
    }
  }

  private static final String[] CALLS = {"tray 3", "write 3", "read 2", "pour 5", "person 2", "sizes 1", "must 3", "feed 5", "wish 2",
      "fault 1", "worth 2", "bars 2", "rather 3", "lawful 1", "breaks 2", "first 3", "step 2", "run 3", "ran 1", "count 1", "room 3",
      "sum 2", "together 3", "knot 1", "near 1", "nearRoom 2", "bear 1", "mend 2", "sort 1", "greedy 1", "gain 3", "weeks 2",
      "week 1", "goes 3", "gone 1"};
  private static final int[] EDGES = {Integer.MIN_VALUE, Integer.MIN_VALUE + 1, -256, -2, -1, 0, 1, 2, 3, 4, 5, 6, 7, 8, 9, 10, 15, 16,
      31, 32, 59, 60, 61, 63, 64, 127, 128, 199, 200, 201, 254, 255, 256, 257, 300, 301, Integer.MAX_VALUE - 1, Integer.MAX_VALUE};

  /** Any call with numbers at the limits of whatever there is, few of which can be. */
  private void playAtTheEdges() {
    for (int i = pick(5); i > 0; i--) { addPerson(3); }
    for (int p = 0; p < many; p++) { if (chance(70)) { wishFor(p); } }
    if (chance(70)) { for (int t = 0; t < 4; t++) { if (chance(60)) { tellSome(t); } } }
    for (int i = 0; i < 350 && both.wrong == 0 && !both.isUsedUp(); i++) {
      String[] call = CALLS[pick(CALLS.length)].split(" ");
      long[] x = new long[Integer.parseInt(call[1])];
      for (int j = 0; j < x.length; j++) { x[j] = chance(60) ? pick(5) : EDGES[pick(EDGES.length)]; }
      if (call[0].equals("person") && (many >= 4 || chance(50))) { x[0] = chance(50) ? random.nextLong() : 1; }
      if (call[0].equals("must")) { x[2] = pick(2); }
      if (call[0].equals("write") && chance(20)) { x[2] = random.nextLong() >> pick(64); }
      if (both.call(call[0], x) >= 0 && call[0].equals("person")) { many++; }
    }
  }

  private int sizesSet() { return chance(50) ? 1 + pick(255) : 1 << pick(3) | 1 << pick(4) | pick(4); }

  private static long number(String word) {
    long n = 0;
    for (char c : word.toCharArray()) { n = n << 5 | c - 'a' + 1; }
    return n;
  }

  private void addPerson(int kins) {
    if (both.call("person", number(NAMES[many % 8]), pick(kins)) >= 0) { many++; }
  }

  private void must() { both.call("must", someone(), someone(), chance(60) ? 0 : 1); }

  private int someone() { return chance(6) ? pick(12) - 2 : pick(Math.max(1, many)); }

  private int kind() { return chance(4) ? pick(10) - 2 : pick(6); }

  // ---- texts

  private String atom(int depth) {
    int r = pick(10);
    if (r < 3) { return String.valueOf(chance(90) ? pick(7) : pick(10000)); }
    if (r < 4) { return "size"; }
    if (r < 5) { return "kin"; }
    if (r < 6 && depth < 7) { return "(" + sum(depth + 1) + ")"; }
    return chance(2) ? "nobody" : NAMES[pick(Math.max(1, many))];
  }

  private String item(int depth) {
    StringBuilder b = new StringBuilder(atom(depth));
    for (int i = pick(6); i > 3; i--) { b.append(gap()).append('*').append(gap()).append(atom(depth)); }
    return b.toString();
  }

  private String sum(int depth) {
    StringBuilder b = new StringBuilder(item(depth));
    for (int i = pick(5); i > 2; i--) { b.append(gap()).append(chance(50) ? '+' : '-').append(gap()).append(item(depth)); }
    return b.toString();
  }

  private String gap() { return chance(85) ? "" : chance(80) ? " " : "\n "; }

  private String one() { return (chance(20) ? "not " : "") + sum(0) + gap() + "<>=".charAt(pick(3)) + gap() + sum(0); }

  private String test() {
    StringBuilder b = new StringBuilder(one());
    for (int i = pick(6); i > 3; i--) { b.append(chance(50) ? " or " : " and ").append(one()); }
    return b.toString();
  }

  private String saying() {
    if (chance(12)) { return "bar " + test() + ";"; }
    return "add " + sum(0) + (chance(40) ? " if " + test() : "") + ";";
  }

  /** Simple likings, which make more rings and knots than wild texts do. */
  private String likings(int p) {
    StringBuilder b = new StringBuilder();
    for (int q = 0; q < many; q++) {
      if (q != p && chance(70)) { b.append("add ").append(pick(9)).append('*').append(NAMES[q]).append(chance(40) ? "*0-" + NAMES[q] + "*3;" : ";"); }
    }
    if (chance(40)) { b.append("add 0-").append(pick(6)).append(" if size>").append(1 + pick(3)).append(';'); }
    if (chance(30)) { b.append("bar size=").append(1 + pick(4)).append(chance(50) ? " and " + NAMES[pick(many)] + "=0;" : ";"); }
    return b.toString();
  }

  /** Tables of worths of the groups of two and three: rings of every sort come from these. */
  private String table(int p) {
    StringBuilder b = new StringBuilder();
    for (int i = 2 + pick(6); i > 0; i--) {
      b.append("add ").append(chance(20) ? "0-" : "").append(pick(10)).append(" if size=").append(1 + pick(3));
      b.append(" and ").append(NAMES[pick(many)]).append(chance(70) ? "=1;" : "=0;");
    }
    return b.toString();
  }

  /** Each runs after the next one; in groups of few this seldom comes to rest. */
  private String chase(int p) {
    int after = (p + 1) % many;
    int before = (p + many - 1) % many;
    StringBuilder b = new StringBuilder();
    b.append("add ").append(3 + pick(4)).append('*').append(NAMES[after]).append(';');
    b.append("add ").append(pick(4)).append('*').append(NAMES[before]).append(';');
    if (chance(50)) { b.append("add 0-").append(3 + pick(9)).append(" if ").append(NAMES[before]).append("=1;"); }
    if (chance(60)) { b.append(chance(50) ? "bar " : "add 0-20 if ").append("size>").append(2 + pick(2)).append(';'); }
    if (chance(20)) { b.append("add ").append(pick(5)).append("*kin;"); }
    if (chance(20)) { b.append("bar size=1;"); }
    return b.toString();
  }

  /** The same for all, so that wishes are alike. */
  private String common(int p) {
    Random same = new Random(kindly * 31L + many);
    StringBuilder b = new StringBuilder("add size*").append(same.nextInt(4)).append(';');
    for (int q = 0; q < many; q++) { b.append("add ").append(same.nextInt(7)).append('*').append(NAMES[q]).append(';'); }
    return chance(5) ? b + "bar size>4;" : b.toString();
  }

  private String friendly(int p) {
    StringBuilder b = new StringBuilder();
    for (int q = 0; q < many; q++) {
      Random same = new Random(Math.min(p, q) * 8L + Math.max(p, q) + kindly * 64L);
      if (q != p) { b.append("add ").append(same.nextInt(9)).append('*').append(NAMES[q]).append('-').append(same.nextInt(9)).append('*').append(NAMES[q]).append(';'); }
    }
    return chance(4) ? b + "add 1;" : b.toString();
  }

  private String text(int p) {
    if (many > 0 && kindly == 0 && chance(96)) { return common(p); }
    if (many > 0 && kindly == 1 && chance(98)) { return friendly(p); }
    if (many > 0 && kindly <= 3 && chance(90)) { return likings(p); }
    if (many > 0 && kindly <= 5 && chance(90)) { return table(p); }
    if (many > 0 && kindly <= 9 && chance(95)) { return chase(p); }
    StringBuilder b = new StringBuilder();
    for (int i = chance(90) ? pick(6) : pick(15); i > 0; i--) { b.append(saying()).append(gap()); }
    return b.toString();
  }

  private String spoilt(String text) {
    String signs = ";<>=+-*()abcdorifnot 0123456789\n~A\u00e9";
    StringBuilder b = new StringBuilder(text);
    int at = pick(b.length() + 1);
    int r = pick(4);
    if (r == 0 && b.length() > 0) { b.deleteCharAt(Math.min(at, b.length() - 1)); }
    if (r == 1) { b.insert(at, signs.charAt(pick(signs.length()))); }
    if (r == 2) { b.setLength(at); }
    if (r == 3) { b.insert(at, new String[] {" if ", " bar ", "add 1;", "((((((", " not ", "99999", " or ", " and "}[pick(8)]); }
    return b.toString();
  }

  private void wishFor(int p) {
    String text = text(p);
    if (chance(8)) { text = spoilt(text); }
    if (text.length() > 300) { text = text.substring(0, 1 + text.lastIndexOf(';', 299)); }
    both.wish(p, text);
  }

  // ---- calls

  private void tellSome(int t) {
    both.call("tray", t, pick(4), chance(4) ? pick(many + 1) : many + pick(3));
    int[] lawful = chance(80) ? both.oracle.someParting(random) : null;
    if (lawful != null) {
      for (int p = 0; p < many; p++) { both.call("write", t, p, lawful[p]); }
      return;
    }
    int spread = chance(30) ? 8 : 1 + pick(4);
    for (int p = 0; p < many; p++) { both.call("write", t, p, chance(1) ? pick(400) - 100 : pick(spread)); }
  }

  private int tray() { return chance(3) ? pick(7) - 2 : chance(6) ? 3 : pick(3); }

  private int group() { return chance(6) ? pick(600) - 100 : pick(1 << many); }

  private int groupWith(int p) { return chance(95) && p >= 0 && p < many ? group() | 1 << p : group(); }

  private void ask() {
    int r = pick(100);
    if (r < 12) {
      askOfState();
    } else if (r < 40) {
      askOfTold();
    } else if (r < 80) {
      askOfAll();
    } else {
      askOfRest();
    }
  }

  private void askOfState() {
    int p = someone();
    switch (pick(12)) {
      case 0: if (chance(60)) { both.call("sizes", 255); } both.call("sizes", chance(5) ? pick(400) - 50 : chance(50) ? 255 : sizesSet()); break;
      case 1: if (chance(30)) { must(); } break;
      case 2: if (many > 0) { wishFor(pick(many)); } break;
      case 3: if (many < most) { addPerson(3); } break;
      case 4: both.call("lawful", group()); break;
      case 5: both.call("worth", p, groupWith(p)); break;
      case 6: both.call("bars", p, groupWith(p)); break;
      case 7: both.call("person", chance(20) ? number(NAMES[pick(8)]) : chance(50) ? number(NAMES[pick(8)] + "a") * 31 : -pick(5), pick(12) - 1); break;
      case 8: both.call("wish", p, pick(400) - 20); break;
      case 9: both.call("pour", tray(), pick(9) - 1, tray(), pick(9) - 1, pick(5) - 1); break;
      case 10: both.call("write", tray(), pick(10) - 1, chance(80) ? pick(4) : random.nextLong()); break;
      default: both.call("rather", p, groupWith(p), groupWith(p)); break;
    }
  }

  private void readAll(int t) { for (int p = 0; p < many + 2; p++) { both.call("read", t, p); } }

  private void askOfTold() {
    int t = tray();
    switch (pick(7)) {
      case 0: both.call("breaks", t, kind()); break;
      case 1: both.call("first", t, kind(), pick(2)); break;
      case 2: both.call("first", t, kind(), pick(5) - 1); break;
      case 3: both.call("step", t, kind()); readAll(t); break;
      case 4: both.call("run", t, kind(), chance(80) ? 1 + pick(200) : pick(210) - 3); readAll(t); break;
      case 5: both.call("ran", pick(5) - 1); break;
      default: tellSome(pick(4)); break;
    }
  }

  private void askOfAll() {
    int k = kind();
    switch (pick(11)) {
      case 0: both.call("count", chance(20) ? NONE : k); break;
      case 1: both.call("room", k, pick(3), someone()); break;
      case 2: both.call("room", k, pick(6) - 1, someone()); break;
      case 3: both.call("sum", k, chance(90) ? 1 + pick(2) : pick(5) - 1); break;
      case 4: both.call("together", k, someone(), someone()); break;
      case 5: both.call("knot", k); break;
      case 6: both.call("near", k); break;
      case 7: both.call("nearRoom", k, someone()); break;
      case 8: both.call("bear", k); break;
      default: both.call("mend", k, chance(95) ? pick(7) : pick(10) - 1); break;
    }
  }

  private static final int NONE = -1;

  private void askOfRest() {
    switch (pick(8)) {
      case 0: both.call("sort", chance(90) ? pick(2) : pick(5) - 1); break;
      case 1: both.call("greedy", someone()); break;
      case 2: both.call("gain", kind(), someone(), pick(6) - (chance(5) ? 1 : 0)); break;
      case 3: both.call("weeks", kind(), chance(95) ? 1 + pick(5) : pick(8)); break;
      case 4: both.call("week", pick(6) - (chance(5) ? 1 : 0)); break;
      case 5: both.call("gone", someone()); break;
      default: both.call("goes", tray(), kind(), someone()); break;
    }
  }
}
