import java.util.ArrayList;
import java.util.Arrays;
import java.util.HashMap;
import java.util.List;
import java.util.Map;
import java.util.Random;
import java.util.TreeSet;

/** The document once more, in the slowest and plainest way: what the program's answers are held against. */
final class Oracle {
  static final int NONE = -1;

  /** A call that ends with another STATUS than 0. */
  private static final class No extends RuntimeException {
    private static final long serialVersionUID = 1L;
    final int why;
    No(int why) { super(null, null, false, false); this.why = why; }
  }

  private record Token(char sort, String text, int place) { }
  private record Must(int a, int b, boolean with) { }
  /** What one saying is: the sum's tokens (none for bar), the test's tokens (none without). */
  private record Saying(boolean bar, List<Token> sum, List<Token> test) { }
  private record Break(int a, int b, int[] after, int[] who) { }

  /** Who is there, what sizes, which saying is left out, how much is borne. */
  private record World(int set, int sizes, int omitOf, int omit, long borne) { }

  private final List<String> names = new ArrayList<>();
  private final List<Integer> kins = new ArrayList<>();
  private final List<List<Saying>> wishes = new ArrayList<>();
  private final List<Must> musts = new ArrayList<>();
  private int sizes = 255;
  private final long[][] trays = new long[4][];
  private final int[] sorts = new int[4];
  private byte[] tape = new byte[0];
  private int faultKind = NONE;
  private int faultPlace = NONE;
  private int status = 0;
  private int[] ran = null;
  private int[] week = null;
  private int[] gone = null;
  private final Map<Long, long[]> memo = new HashMap<>();

  int status() { return status; }

  /** Does a call by its name; booleans count 1 or 0. */
  long call(String name, long... x) {
    int[] a = new int[x.length];
    for (int i = 0; i < x.length; i++) { a[i] = (int) x[i]; }
    if (name.equals("feed")) { return feed(a); }
    if (name.equals("fault")) { return a[0] == 0 ? faultKind : a[0] == 1 ? faultPlace : NONE; }
    if (name.equals("status")) { return status; }
    try {
      long answer = dispatch(name, a, x);
      status = 0;
      return answer;
    } catch (No no) {
      status = no.why;
      return List.of("tray", "write", "pour", "sizes", "must", "step").contains(name) ? 0 : NONE;
    }
  }

  private long dispatch(String name, int[] a, long[] x) {
    switch (name) {
      case "tray": return tray(a[0], a[1], a[2]);
      case "write": at(a[0], a[1]); trays[a[0]][a[1]] = cut(sorts[a[0]], x[2]); return 1;
      case "read": at(a[0], a[1]); return trays[a[0]][a[1]];
      case "pour": return pour(a);
      case "person": return person(x[0], a[1]);
      case "sizes": if (a[0] < 1 || a[0] > 255) { throw new No(1); } sizes = a[0]; memo.clear(); return 1;
      case "must": return must(a[0], a[1], x[2] != 0);
      case "wish": return wish(a[0], a[1]);
      case "worth": member(a[0], a[1]); return worth(whole(), a[0], a[1])[0];
      case "bars": member(a[0], a[1]); return worth(whole(), a[0], a[1])[1];
      case "rather": member(a[0], a[1]); member(a[0], a[2]); return rather(whole(), a[0], a[1], a[2], 0) ? 1 : 0;
      case "lawful": if (a[0] < 1 || a[0] >= 1 << n()) { throw new No(1); } return lawful(whole(), a[0]) ? 1 : 0;
      case "breaks": return breaksOf(whole(), told(a[0], a[1], true), a[1]).size();
      case "first": {
        List<Break> found = breaksOf(whole(), told(a[0], a[1], a[2] >= 0 && a[2] <= 1), a[1]);
        if (found.isEmpty()) { throw new No(6); }
        return a[2] == 0 ? found.get(0).a() : found.get(0).b();
      }
      case "step": {
        List<Break> found = breaksOf(whole(), told(a[0], a[1], true), a[1]);
        if (found.isEmpty()) { throw new No(6); }
        tell(a[0], found.get(0).after());
        return 1;
      }
      case "run": return run(a[0], a[1], a[2]);
      case "ran":
        if (a[0] < 0 || a[0] > 2) { throw new No(1); }
        if (ran == null || a[0] > 0 && ran[0] != 1) { throw new No(6); }
        return ran[a[0]];
      default: return dispatchAll(name, a);
    }
  }

  private long dispatchAll(String name, int[] a) {
    switch (name) {
      case "count":
        if (a[0] == NONE) { return partings(whole()).size(); }
        return peace(whole(), kind(a[0])).size();
      case "room": {
        kind(a[0]);
        if (a[1] < 0 || a[1] > 2) { throw new No(1); }
        who(a[2]);
        return best(a[0], a[1])[a[2]];
      }
      case "sum": {
        kind(a[0]);
        if (a[1] < 1 || a[1] > 2) { throw new No(1); }
        return score(best(a[0], a[1]), a[1]);
      }
      case "together": {
        kind(a[0]); who(a[1]); who(a[2]);
        if (a[1] == a[2]) { throw new No(1); }
        return peace(whole(), a[0]).stream().filter(v -> v[a[1]] == v[a[2]]).count();
      }
      case "knot": return knot(kind(a[0]));
      case "near": return breaksOf(whole(), near(kind(a[0])), a[0]).size();
      case "nearRoom": kind(a[0]); who(a[1]); return near(a[0])[a[1]];
      case "bear": return bear(kind(a[0]));
      case "mend": return mend(kind(a[0]), a[1]);
      case "sort":
        if (a[0] < 0 || a[0] > 1) { throw new No(1); }
        return (a[0] == 0 ? alike() : friends()) ? 1 : 0;
      case "greedy": who(a[0]); return greedy()[a[0]];
      case "gain": return gain(a[0], a[1], a[2]);
      case "weeks": return weeks(a[0], a[1]);
      case "week":
        if (a[0] < 0) { throw new No(1); }
        if (week == null || a[0] >= week.length) { throw new No(6); }
        return week[a[0]];
      case "goes": return goes(a[0], a[1], a[2]);
      case "gone":
        who(a[0]);
        if (gone == null || a[0] >= gone.length || gone[a[0]] == NONE) { throw new No(6); }
        return gone[a[0]];
      default: throw new IllegalStateException(name);
    }
  }

  // ---- trays

  private long tray(int t, int sort, int many) {
    if (t < 0 || t > 3 || sort < 0 || sort > 3 || many < 0 || many > 60) { throw new No(1); }
    trays[t] = new long[many];
    sorts[t] = sort;
    return 1;
  }

  private void at(int t, int place) {
    if (t < 0 || t > 3) { throw new No(1); }
    if (trays[t] == null) { throw new No(2); }
    if (place < 0 || place >= trays[t].length) { throw new No(3); }
  }

  private static long cut(int sort, long v) {
    int bits = 8 << sort;
    return v << 64 - bits >> 64 - bits;
  }

  private long pour(int[] a) {
    if (a[0] < 0 || a[0] > 3 || a[2] < 0 || a[2] > 3 || a[1] < 0 || a[3] < 0 || a[4] < 0) { throw new No(1); }
    if (trays[a[0]] == null || trays[a[2]] == null) { throw new No(2); }
    if (sorts[a[0]] != sorts[a[2]]) { throw new No(8); }
    if ((long) a[1] + a[4] > trays[a[0]].length || (long) a[3] + a[4] > trays[a[2]].length) { throw new No(3); }
    long[] copy = Arrays.copyOfRange(trays[a[0]], a[1], a[1] + a[4]);
    for (int i = 0; i < copy.length; i++) { trays[a[2]][a[3] + i] = copy[i]; }
    return 1;
  }

  // ---- people and wishes

  private int n() { return names.size(); }

  private void who(int p) { if (p < 0 || p >= n()) { throw new No(1); } }

  private int kind(int k) { if (k < 0 || k > 5) { throw new No(1); } return k; }

  private void member(int p, int group) {
    who(p);
    if (group < 1 || group >= 1 << n() || (group >> p & 1) == 0) { throw new No(1); }
  }

  private static final List<String> KEYS = List.of("add", "bar", "if", "or", "and", "not", "size", "kin");

  private long person(long name, int kin) {
    StringBuilder b = new StringBuilder();
    for (long r = name; r > 0; r >>= 5) { b.insert(0, (char) ('a' + (r & 31) - 1)); }
    String word = b.toString();
    if (name < 0 || !word.matches("[a-z]{1,8}") || KEYS.contains(word) || kin < 0 || kin > 9) { throw new No(1); }
    if (n() == 8) { throw new No(4); }
    if (names.contains(word)) { throw new No(7); }
    names.add(word);
    kins.add(kin);
    wishes.add(new ArrayList<>());
    memo.clear();
    return n() - 1;
  }

  private long must(int a, int b, boolean with) {
    who(a); who(b);
    if (a == b) { throw new No(1); }
    if (musts.size() == 12) { throw new No(4); }
    musts.add(new Must(a, b, with));
    memo.clear();
    return 1;
  }

  private long feed(int[] a) {
    if (tape.length + 20 > 300) { return NONE; }
    int old = tape.length;
    tape = Arrays.copyOf(tape, old + 20);
    for (int i = 0; i < 20; i++) { tape[old + i] = (byte) (a[i / 4] >>> 24 - 8 * (i % 4)); }
    return tape.length;
  }

  private long wish(int p, int n) {
    who(p);
    if (n < 0 || n > tape.length) { throw new No(1); }
    StringBuilder text = new StringBuilder();
    for (int i = 0; i < n; i++) { text.append((char) (tape[i] & 255)); }
    tape = new byte[0];
    faultKind = 0;
    faultPlace = NONE;
    List<Saying> read = parse(text.toString());
    if (read == null) { throw new No(9); }
    wishes.set(p, read);
    memo.clear();
    return read.size();
  }

  /** The token at or behind a place; sort W, N, S, E (the end), B (no token begins so). */
  private static Token token(String text, int from) {
    int i = from;
    while (i < text.length() && (text.charAt(i) == 10 || text.charAt(i) == 32)) { i++; }
    if (i == text.length()) { return new Token('E', "", i); }
    String rest = text.substring(i);
    String word = rest.replaceFirst("(?s)^([a-z]*).*", "$1");
    if (!word.isEmpty()) { return new Token('W', word, i); }
    String digits = rest.replaceFirst("(?s)^([0-9]*).*", "$1");
    if (!digits.isEmpty()) { return new Token(digits.length() > 4 ? 'B' : 'N', digits, i); }
    return new Token(";<>=+-*()".indexOf(rest.charAt(0)) >= 0 ? 'S' : 'B', rest.substring(0, 1), i);
  }

  /** A machine with few states goes along the tokens; null and the fault, if there is one. */
  private List<Saying> parse(String text) {
    List<Saying> found = new ArrayList<>();
    String state = "saying"; // saying, atom, atomOrNot, after
    String phase = "";       // sum, left, right
    int depth = 0;
    boolean bar = false;
    List<Token> sum = new ArrayList<>();
    List<Token> test = new ArrayList<>();
    int place = 0;
    while (true) {
      Token t = token(text, place);
      place = t.place() + t.text().length();
      String x = t.text();
      int fault = 0;
      if (t.sort() == 'B') {
        fault = 1;
      } else if (state.equals("saying")) {
        if (t.sort() == 'E') { return found; }
        if (!x.equals("add") && !x.equals("bar")) {
          fault = 2;
        } else if (found.size() == 12) {
          fault = 4;
        } else {
          bar = x.equals("bar");
          phase = bar ? "left" : "sum";
          state = bar ? "atomOrNot" : "atom";
          sum = new ArrayList<>();
          test = new ArrayList<>();
        }
      } else if (state.startsWith("atom")) {
        boolean isName = names.contains(x) || x.equals("size") || x.equals("kin");
        if (state.equals("atomOrNot") && x.equals("not")) {
          state = "atom";
        } else if (t.sort() == 'N' || isName) {
          state = "after";
        } else if (x.equals("(")) {
          if (depth == 6) { fault = 5; }
          depth++;
          state = "atom";
        } else {
          fault = t.sort() == 'W' && !KEYS.contains(x) ? 3 : 2;
        }
        (phase.equals("sum") ? sum : test).add(t);
      } else {
        if ("*+-".contains(x) && t.sort() == 'S') {
          state = "atom";
        } else if (x.equals(")") && depth > 0) {
          depth--;
        } else if (depth == 0 && phase.equals("left") && t.sort() == 'S' && "<>=".contains(x)) {
          phase = "right";
          state = "atom";
        } else if (depth == 0 && phase.equals("right") && (x.equals("and") || x.equals("or"))) {
          phase = "left";
          state = "atomOrNot";
        } else if (depth == 0 && phase.equals("sum") && x.equals("if")) {
          phase = "left";
          state = "atomOrNot";
          continue;
        } else if (depth == 0 && !phase.equals("left") && x.equals(";")) {
          found.add(new Saying(bar, sum, test));
          state = "saying";
          continue;
        } else {
          fault = 2;
        }
        (phase.equals("sum") ? sum : test).add(t);
      }
      if (fault != 0) {
        faultKind = fault;
        faultPlace = t.place();
        return null;
      }
    }
  }

  /** Cuts tokens at words or signs that stand in no brackets; the cutting tokens come between. */
  private static List<List<Token>> cutAt(List<Token> tokens, String... at) {
    List<List<Token>> parts = new ArrayList<>();
    parts.add(new ArrayList<>());
    int depth = 0;
    for (Token t : tokens) {
      depth += t.text().equals("(") ? 1 : t.text().equals(")") ? -1 : 0;
      if (depth == 0 && Arrays.asList(at).contains(t.text())) {
        parts.add(List.of(t));
        parts.add(new ArrayList<>());
      } else {
        parts.get(parts.size() - 1).add(t);
      }
    }
    return parts;
  }

  private boolean test(List<Token> tokens, int p, int group) {
    boolean any = false;
    List<List<Token>> parts = cutAt(tokens, "or");
    for (int i = 0; i < parts.size(); i += 2) {
      boolean all = true;
      List<List<Token>> ones = cutAt(parts.get(i), "and");
      for (int j = 0; j < ones.size(); j += 2) { all &= one(ones.get(j), p, group); }
      any |= all;
    }
    return any;
  }

  private boolean one(List<Token> tokens, int p, int group) {
    boolean not = tokens.get(0).text().equals("not");
    List<List<Token>> sides = cutAt(not ? tokens.subList(1, tokens.size()) : tokens, "<", ">", "=");
    long left = sum(sides.get(0), p, group);
    long right = sum(sides.get(2), p, group);
    String sign = sides.get(1).get(0).text();
    boolean holds = sign.equals("<") ? left < right : sign.equals(">") ? left > right : left == right;
    return holds != not;
  }

  private long sum(List<Token> tokens, int p, int group) {
    List<List<Token>> items = cutAt(tokens, "+", "-");
    long total = item(items.get(0), p, group);
    for (int i = 1; i < items.size(); i += 2) {
      long next = item(items.get(i + 1), p, group);
      total = items.get(i).get(0).text().equals("+") ? total + next : total - next;
    }
    return total;
  }

  private long item(List<Token> tokens, int p, int group) {
    List<List<Token>> atoms = cutAt(tokens, "*");
    long product = 1;
    for (int i = 0; i < atoms.size(); i += 2) { product *= atom(atoms.get(i), p, group); }
    return product;
  }

  private long atom(List<Token> tokens, int p, int group) {
    Token t = tokens.get(0);
    if (t.text().equals("(")) { return sum(tokens.subList(1, tokens.size() - 1), p, group); }
    if (t.sort() == 'N') { return Long.parseLong(t.text()); }
    if (t.text().equals("size")) { return Integer.bitCount(group); }
    if (t.text().equals("kin")) {
      long many = 0;
      for (int q = 0; q < n(); q++) {
        if (q != p && (group >> q & 1) == 1 && kins.get(p) != 0 && kins.get(q).equals(kins.get(p))) { many++; }
      }
      return many;
    }
    return group >> names.indexOf(t.text()) & 1;
  }

  /** WORTH, and whether it is BARRED. */
  private long[] worth(World w, int p, int group) {
    int omit = w.omitOf() == p ? w.omit() : NONE;
    long key = (long) group << 16 | p << 8 | omit + 1;
    return memo.computeIfAbsent(key, k -> {
      long total = 0;
      long barred = 0;
      List<Saying> sayings = wishes.get(p);
      for (int s = 0; s < sayings.size(); s++) {
        Saying say = sayings.get(s);
        if (s != omit && (say.test().isEmpty() || test(say.test(), p, group))) {
          if (say.bar()) { barred = 1; } else { total += sum(say.sum(), p, group); }
        }
      }
      return new long[] {Math.max(-1000000, Math.min(1000000, total)), barred};
    });
  }

  private boolean rather(World w, int p, int group, int other, long borne) {
    long[] g = worth(w, p, group);
    long[] o = worth(w, p, other);
    if (g[1] == 0 && o[1] == 0) { return g[0] - o[0] > borne; }
    return g[1] == 0 && o[1] == 1;
  }

  private long counted(World w, int p, int group) {
    long[] v = worth(w, p, group);
    return v[1] == 1 ? -1000000 : v[0];
  }

  private World whole() { return new World((1 << n()) - 1, sizes, NONE, NONE, 0); }

  private boolean lawful(World w, int group) {
    if (group == 0 || (w.sizes() >> Integer.bitCount(group) - 1 & 1) == 0) { return false; }
    for (Must m : musts) {
      boolean a = (group >> m.a() & 1) == 1;
      boolean b = (group >> m.b() & 1) == 1;
      boolean bothThere = (w.set() >> m.a() & 1) == 1 && (w.set() >> m.b() & 1) == 1;
      if (bothThere && (m.with() ? a != b : a && b)) { return false; }
    }
    return true;
  }

  // ---- partings: an int for each person, NONE for who is not there

  private int groupOf(int[] v, int p) {
    int group = 0;
    for (int q = 0; q < v.length; q++) { if (v[q] == v[p]) { group |= 1 << q; } }
    return group;
  }

  private boolean isParting(World w, int[] v) {
    for (int p = 0; p < v.length; p++) {
      if ((w.set() >> p & 1) == 1 && !lawful(w, groupOf(v, p))) { return false; }
    }
    return true;
  }

  private int[] numbered(int[] v) {
    Map<Integer, Integer> as = new HashMap<>();
    int[] r = new int[v.length];
    for (int p = 0; p < v.length; p++) {
      if (v[p] == NONE) { r[p] = NONE; continue; }
      as.putIfAbsent(v[p], as.size());
      r[p] = as.get(v[p]);
    }
    return r;
  }

  private List<int[]> partings(World w) {
    List<int[]> all = new ArrayList<>();
    grow(w, new int[n()], 0, 0, all);
    return all;
  }

  /** Some parting, with its groups' numbers mixed up; null if there are none. */
  int[] someParting(Random random) {
    List<int[]> all = partings(whole());
    if (all.isEmpty()) { return null; }
    int[] v = all.get(random.nextInt(all.size()));
    int turn = random.nextInt(8);
    for (int p = 0; p < v.length; p++) { v[p] = v[p] + turn & 7; }
    return v;
  }

  private void grow(World w, int[] v, int p, int used, List<int[]> all) {
    if (p == n()) {
      if (isParting(w, v)) { all.add(v.clone()); }
      return;
    }
    if ((w.set() >> p & 1) == 0) {
      v[p] = NONE;
      grow(w, v, p + 1, used, all);
      return;
    }
    for (int g = 0; g <= used; g++) {
      v[p] = g;
      grow(w, v, p + 1, Math.max(used, g + 1), all);
    }
  }

  private List<Break> breaksOf(World w, int[] v, int kind) {
    List<Break> found = new ArrayList<>();
    if (kind <= 3) {
      for (int p = 0; p < n(); p++) { if ((w.set() >> p & 1) == 1) { moves(w, v, kind, p, found); } }
    } else if (kind == 4) {
      for (int h = 1; h < 1 << n(); h++) {
        if ((h & ~w.set()) == 0) { tryBreak(w, v, people(h), places(v, h), h, h, found); }
      }
    } else {
      for (int p = 0; p < n(); p++) {
        for (int q = p + 1; q < n(); q++) {
          if (v[p] != NONE && v[q] != NONE && v[p] != v[q]) {
            int[] after = v.clone();
            after[p] = v[q];
            after[q] = v[p];
            tryBreak(w, v, new int[] {p, q}, after, p, q, found);
          }
        }
      }
    }
    return found;
  }

  private int[] people(int group) {
    return java.util.stream.IntStream.range(0, 8).filter(p -> (group >> p & 1) == 1).toArray();
  }

  private int[] places(int[] v, int group) {
    int[] after = v.clone();
    for (int p : people(group)) { after[p] = 99; }
    return after;
  }

  private void moves(World w, int[] v, int kind, int p, List<Break> found) {
    TreeSet<Integer> goals = new TreeSet<>();
    for (int q = n() - 1; q >= 0; q--) {
      if (kind > 0 && v[q] != NONE && v[q] != v[p]) {
        goals.add(Integer.numberOfTrailingZeros(groupOf(v, q)));
      }
    }
    for (int least : goals) {
      int goal = groupOf(v, least);
      int[] after = v.clone();
      after[p] = v[least];
      if (nobodyMinds(w, v, kind, p, goal)) { tryBreak(w, v, new int[] {p}, after, p, goal, found); }
    }
    int[] after = v.clone();
    after[p] = 99;
    boolean isAlone = groupOf(v, p) == 1 << p;
    if (!isAlone && nobodyMinds(w, v, kind, p, 0)) { tryBreak(w, v, new int[] {p}, after, p, 0, found); }
  }

  private boolean nobodyMinds(World w, int[] v, int kind, int p, int goal) {
    int old = groupOf(v, p);
    int rest = old & ~(1 << p);
    for (int q : people(goal)) {
      if (kind >= 2 && rather(w, q, goal, goal | 1 << p, 0)) { return false; }
    }
    for (int q : people(rest)) {
      if (kind == 3 && rather(w, q, old, rest, 0)) { return false; }
    }
    return true;
  }

  private void tryBreak(World w, int[] v, int[] who, int[] after, int a, int b, List<Break> found) {
    if (!isParting(w, after)) { return; }
    for (int p : who) {
      if (!rather(w, p, groupOf(after, p), groupOf(v, p), w.borne())) { return; }
    }
    found.add(new Break(a, b, numbered(after), who));
  }

  private List<int[]> peace(World w, int kind) {
    List<int[]> all = partings(w);
    all.removeIf(v -> !breaksOf(w, v, kind).isEmpty());
    return all;
  }

  private int[] firstPeace(World w, int kind) {
    for (int[] v : partings(w)) { if (breaksOf(w, v, kind).isEmpty()) { return v; } }
    return null;
  }

  private int[] told(int t, int kind, boolean restCanBe) {
    if (t < 0 || t > 3 || !restCanBe) { throw new No(1); }
    kind(kind);
    if (trays[t] == null) { throw new No(2); }
    if (trays[t].length < n()) { throw new No(3); }
    int[] v = new int[n()];
    for (int p = 0; p < n(); p++) {
      if (trays[t][p] < 0 || trays[t][p] > 7) { throw new No(1); }
      v[p] = (int) trays[t][p];
    }
    if (!isParting(whole(), v)) { throw new No(1); }
    return v;
  }

  private void tell(int t, int[] v) {
    for (int p = 0; p < n(); p++) { trays[t][p] = v[p]; }
  }

  private long run(int t, int kind, int most) {
    int[] v = numbered(told(t, kind, most >= 1 && most <= 200));
    List<String> seen = new ArrayList<>();
    int steps = 0;
    int[] end = null;
    while (end == null) {
      int before = seen.indexOf(Arrays.toString(v));
      seen.add(Arrays.toString(v));
      List<Break> found = breaksOf(whole(), v, kind);
      if (before >= 0) {
        end = new int[] {1, before, steps - before};
      } else if (found.isEmpty()) {
        end = new int[] {0, 0, 0};
      } else if (steps == most) {
        end = new int[] {2, 0, 0};
      } else {
        v = found.get(0).after();
        steps++;
      }
    }
    ran = end;
    tell(t, v);
    return steps;
  }

  // ---- all partings

  private long score(int[] v, int what) {
    long total = 0;
    long least = Long.MAX_VALUE;
    for (int p = 0; p < n(); p++) {
      long c = counted(whole(), p, groupOf(v, p));
      total += c;
      least = Math.min(least, c);
    }
    return what == 1 ? total : n() == 0 ? 0 : least;
  }

  private int[] best(int kind, int what) {
    List<int[]> all = peace(whole(), kind);
    if (all.isEmpty()) { throw new No(6); }
    int[] best = all.get(0);
    for (int[] v : all) { if (what > 0 && score(v, what) > score(best, what)) { best = v; } }
    return best;
  }

  private World with(int set, int someSizes) { return new World(set, someSizes, NONE, NONE, 0); }

  private long knot(int kind) {
    if (firstPeace(whole(), kind) != null) { throw new No(6); }
    int best = -1;
    for (int s = 1; s < 1 << n(); s++) {
      if ((best < 0 || Integer.bitCount(s) < Integer.bitCount(best)) && firstPeace(with(s, sizes), kind) == null) {
        best = s;
      }
    }
    return best;
  }

  private int[] near(int kind) {
    int[] best = null;
    int fewest = 0;
    for (int[] v : partings(whole())) {
      int many = breaksOf(whole(), v, kind).size();
      if (best == null || many < fewest) { best = v; fewest = many; }
    }
    if (best == null) { throw new No(6); }
    return best;
  }

  /** Tries all numbers that can make a difference, from the least on. */
  private long bear(int kind) {
    TreeSet<Long> tries = new TreeSet<>(List.of(0L));
    for (int p = 0; p < n(); p++) {
      for (int g = 1; g < 1 << n(); g++) {
        for (int h = 1; h < 1 << n(); h++) {
          if ((g & h & 1 << p) != 0) {
            tries.add(Math.max(0, worth(whole(), p, g)[0] - worth(whole(), p, h)[0]));
          }
        }
      }
    }
    List<Long> list = new ArrayList<>(tries);
    int low = 0;
    int high = list.size();
    while (low < high) {
      int mid = (low + high) / 2;
      if (firstPeace(new World((1 << n()) - 1, sizes, NONE, NONE, list.get(mid)), kind) != null) {
        high = mid;
      } else {
        low = mid + 1;
      }
    }
    if (low == list.size()) { throw new No(6); }
    return list.get(low);
  }

  private long mend(int kind, int what) {
    if (what < 0 || what > 6) { throw new No(1); }
    if (firstPeace(whole(), kind) != null) { throw new No(6); }
    List<int[]> found = new ArrayList<>();
    if (what <= 2) {
      for (int p = 0; p < n(); p++) {
        for (int s = 0; s < wishes.get(p).size(); s++) {
          if (firstPeace(new World((1 << n()) - 1, sizes, p, s, 0), kind) != null) { found.add(new int[] {p, s}); }
        }
      }
    } else if (what <= 4) {
      for (int size = 1; size <= n(); size++) {
        int more = sizes | 1 << size - 1;
        if (more != sizes && firstPeace(with((1 << n()) - 1, more), kind) != null) { found.add(new int[] {size}); }
      }
    } else {
      for (int p = 0; p < n(); p++) {
        if (firstPeace(with((1 << n()) - 1 & ~(1 << p), sizes), kind) != null) { found.add(new int[] {p}); }
      }
    }
    if (what == 0 || what == 3 || what == 5) { return found.size(); }
    if (found.isEmpty()) { throw new No(6); }
    return what == 2 ? found.get(0)[1] : found.get(0)[0];
  }

  private boolean alike() {
    for (int g = 1; g < 1 << n(); g++) {
      for (int p : people(g)) {
        for (int q : people(g)) {
          boolean same = worth(whole(), p, g)[0] == worth(whole(), q, g)[0];
          if (lawful(whole(), g) && (!same || worth(whole(), p, g)[1] == 1)) { return false; }
        }
      }
    }
    return true;
  }

  private boolean friends() {
    for (int g = 1; g < 1 << n(); g++) {
      for (int p : people(g)) {
        if (worth(whole(), p, g)[1] == 1) { return false; }
        long twos = 0;
        for (int q : people(g & ~(1 << p))) {
          twos += worth(whole(), p, 1 << p | 1 << q)[0];
          if (worth(whole(), p, 1 << p | 1 << q)[0] != worth(whole(), q, 1 << p | 1 << q)[0]) { return false; }
        }
        if (worth(whole(), p, g)[0] != twos) { return false; }
      }
    }
    return true;
  }

  private int[] greedy() {
    if (!alike()) { throw new No(6); }
    int[] v = new int[n()];
    int left = (1 << n()) - 1;
    for (int number = 0; left != 0; number++) {
      int best = 0;
      for (int g = 1; g < 1 << n(); g++) {
        if ((g & ~left) == 0 && lawful(whole(), g)) {
          if (best == 0 || worth(whole(), people(g)[0], g)[0] > worth(whole(), people(best)[0], best)[0]) { best = g; }
        }
      }
      if (best == 0) { throw new No(6); }
      for (int p : people(best)) { v[p] = number; }
      left &= ~best;
    }
    return numbered(v);
  }

  private long gain(int kind, int p, int s) {
    kind(kind);
    who(p);
    if (s < 0 || s >= wishes.get(p).size()) { throw new No(1); }
    int[] without = firstPeace(new World((1 << n()) - 1, sizes, p, s, 0), kind);
    int[] with = firstPeace(whole(), kind);
    if (without == null || with == null) { throw new No(6); }
    return counted(whole(), p, groupOf(without, p)) - counted(whole(), p, groupOf(with, p));
  }

  private long weeks(int kind, int many) {
    kind(kind);
    if (many < 1 || many > 5) { throw new No(1); }
    List<int[]> all = peace(whole(), kind);
    int[] row = new int[many];
    if (!fill(all, row, 0)) { throw new No(6); }
    week = row;
    return all.size();
  }

  private boolean fill(List<int[]> all, int[] row, int k) {
    if (k == row.length) { return true; }
    for (int i = 0; i < all.size(); i++) {
      row[k] = i;
      boolean fine = true;
      for (int j = 0; j < k; j++) { fine &= noneTwice(all.get(row[j]), all.get(i)); }
      if (fine && fill(all, row, k + 1)) { return true; }
    }
    return false;
  }

  private boolean noneTwice(int[] v, int[] u) {
    for (int p = 0; p < n(); p++) {
      for (int q = 0; q < p; q++) {
        boolean likeKins = kins.get(p) != 0 && kins.get(p).equals(kins.get(q));
        if (!likeKins && v[p] == v[q] && u[p] == u[q]) { return false; }
      }
    }
    return true;
  }

  private long goes(int t, int kind, int p) {
    int[] v = told(t, kind, p >= 0 && p < n());
    int[] best = null;
    int fewest = 0;
    for (int[] u : peace(with((1 << n()) - 1 & ~(1 << p), sizes), kind)) {
      int moved = 0;
      for (int q = 0; q < n(); q++) {
        if (q != p && (groupOf(v, q) & ~(1 << p)) != groupOf(u, q)) { moved++; }
      }
      if (best == null || moved < fewest) { best = u; fewest = moved; }
    }
    if (best == null) { throw new No(6); }
    gone = best;
    return fewest;
  }
}
