import java.lang.reflect.Constructor;
import java.lang.reflect.Field;
import java.lang.reflect.Method;
import java.lang.reflect.Modifier;
import java.nio.file.Files;
import java.nio.file.Path;
import java.util.Arrays;
import java.util.Map;
import java.util.Set;
import java.util.TreeMap;
import java.util.TreeSet;
import java.util.regex.Matcher;
import java.util.regex.Pattern;

/** The document's face and the rules of LANGUAGE.md, as far as reflection and the source's text show them. */
public final class RulesTest {
  private static final String FACE =
      "int status(); boolean tray(int,int,int); boolean write(int,int,long); long read(int,int);"
      + " boolean pour(int,int,int,int,int); int person(long,int); boolean sizes(int); boolean must(int,int,boolean);"
      + " int feed(int,int,int,int,int); int wish(int,int); int fault(int); int worth(int,int); int bars(int,int);"
      + " int rather(int,int,int); int lawful(int); int breaks(int,int); int first(int,int,int); boolean step(int,int);"
      + " int run(int,int,int); int ran(int); int count(int); int room(int,int,int); int sum(int,int);"
      + " int together(int,int,int); int knot(int); int near(int); int nearRoom(int,int); int bear(int);"
      + " int mend(int,int); int sort(int); int greedy(int); int gain(int,int,int); int weeks(int,int); int week(int);"
      + " int goes(int,int,int); int gone(int)";
  private static int wrong = 0;

  public static void main(String[] args) throws Exception {
    face();
    nested();
    String source = Files.readString(Path.of(args.length > 0 ? args[0] : "src/main/java/CabinPeace.java"));
    source(bare(source));
    lengths(source);
    depth(bare(source));
    System.out.println("RulesTest: " + wrong + " wrong");
    if (wrong > 0) { System.exit(1); }
  }

  private static void demand(boolean holds, String what) {
    if (!holds) {
      wrong++;
      System.out.println("RulesTest: " + what);
    }
  }

  private static String told(Method m) {
    StringBuilder b = new StringBuilder(m.getReturnType().getSimpleName()).append(' ').append(m.getName()).append('(');
    for (Class<?> type : m.getParameterTypes()) { b.append(b.charAt(b.length() - 1) == '(' ? "" : ",").append(type.getSimpleName()); }
    return b.append(')').toString();
  }

  private static Set<String> faceNames() {
    Set<String> names = new TreeSet<>();
    for (Method m : CabinPeace.class.getDeclaredMethods()) { if (Modifier.isPublic(m.getModifiers())) { names.add(m.getName()); } }
    return names;
  }

  private static void face() throws Exception {
    Class<?> c = CabinPeace.class;
    demand(Modifier.isFinal(c.getModifiers()) && Modifier.isPublic(c.getModifiers()), "public and final");
    demand(c.getSuperclass() == Object.class && c.getInterfaces().length == 0, "no class above");
    Set<String> found = new TreeSet<>();
    for (Method m : c.getDeclaredMethods()) {
      boolean isPublic = Modifier.isPublic(m.getModifiers());
      if (isPublic) { found.add(told(m)); }
      demand(isPublic || Modifier.isPrivate(m.getModifiers()), m + " is neither public nor private");
      demand(isPublic || !faceNames().contains(m.getName()), m + " bears a public name");
    }
    demand(found.equals(new TreeSet<>(Arrays.asList(FACE.split("; ?")))), "the face is " + found);
    for (Constructor<?> k : c.getDeclaredConstructors()) { demand(k.getParameterCount() == 0 && Modifier.isPublic(k.getModifiers()), "one constructor"); }
    for (Field f : c.getDeclaredFields()) {
      demand(f.getName().equals("NONE") ? Modifier.isPublic(f.getModifiers()) : Modifier.isPrivate(f.getModifiers()), f + " is seen");
    }
    demand(c.getField("NONE").getInt(null) == -1, "NONE");
  }

  private static void nested() {
    Class<?>[] inside = CabinPeace.class.getDeclaredClasses();
    demand(inside.length <= 11, "more than twelve classes");
    for (Class<?> c : inside) {
      demand(Modifier.isStatic(c.getModifiers()) && !Modifier.isPublic(c.getModifiers()), c + " is static and not public");
      int fields = 0;
      for (Field f : c.getDeclaredFields()) {
        boolean isStatic = Modifier.isStatic(f.getModifiers());
        fields += isStatic ? 0 : 1;
        demand(!isStatic || Modifier.isFinal(f.getModifiers()) && f.getType().isPrimitive(), f + " is static state");
      }
      demand(fields <= 20, c + " has " + fields + " fields");
      for (Method m : c.getDeclaredMethods()) {
        demand(!faceNames().contains(m.getName()), m + " bears a public name");
        demand(m.getParameterCount() <= 7, m + " takes too much");
      }
    }
  }

  /** The source without comments and characters in quotes. */
  private static String bare(String source) {
    return source.replaceAll("(?s)/\\*.*?\\*/", " ").replaceAll("//[^\n]*", " ").replaceAll("'[^']'", "'x'");
  }

  private static void source(String bare) {
    String[] words = {"throw", "throws", "try", "catch", "finally", "synchronized", "assert", "import", "package",
        "native", "volatile", "protected", "double", "float", "instanceof", "Object", "Thread", "Random", "Runtime",
        "currentTimeMillis", "nanoTime", "hashCode", "equals", "toString", "String", "HashMap"};
    for (String word : words) { demand(!Pattern.compile("\\b" + word + "\\b").matcher(bare).find(), "the word " + word); }
    demand(!bare.contains("->") && !bare.contains("::"), "a lambda or a method reference");
    demand(!bare.contains("\""), "a text");
    demand(!bare.contains("Exact("), "an Exact function");
    demand(!Pattern.compile("static\\s*\\{").matcher(bare).find(), "a static block");
    demand(!Pattern.compile("for \\(;|while \\(true\\)").matcher(bare).find(), "a loop without an end");
    Matcher library = Pattern.compile("\\b(System|Math|Integer|Long|Arrays)\\.(\\w+)").matcher(bare);
    Set<String> allowed = Set.of("System.arraycopy", "Math.min", "Math.max", "Integer.bitCount",
        "Integer.numberOfTrailingZeros", "Long.numberOfTrailingZeros", "Long.bitCount");
    while (library.find()) { demand(allowed.contains(library.group()), library.group()); }
    Matcher made = Pattern.compile("\\bnew (\\w+)").matcher(bare);
    int all = 0;
    while (made.find()) { all++; }
    demand(all > 0 && madeByMethods(bare) == 0, "a method makes objects");
  }

  /** How often new stands in a method that is no constructor. */
  private static int madeByMethods(String bare) {
    int many = 0;
    boolean inMethod = false;
    for (String line : bare.split("\n")) {
      if (line.matches(" {4,8}[a-z].*\\) \\{\\s*")) { inMethod = line.matches(".*\\w+ \\w+\\(.*") && !line.matches(" {4}public CabinPeace\\(.*"); }
      if (line.matches(" {4,8}\\}\\s*")) { inMethod = false; }
      if (inMethod && line.contains(" new ")) { many++; }
    }
    return many;
  }

  /** Methods of one name are taken for one, so the depth told is rather too great than too small. */
  private static void depth(String bare) {
    Map<String, Set<String>> calls = new TreeMap<>();
    String method = null;
    for (String line : bare.split("\n")) {
      Matcher head = Pattern.compile("^ {4,8}[a-zA-Z].*?(\\w+)\\([^()]*\\) \\{\\s*$").matcher(line);
      if (head.find()) {
        method = head.group(1);
        calls.putIfAbsent(method, new TreeSet<>());
      } else if (method != null) {
        Matcher call = Pattern.compile("(\\w+)\\(").matcher(line);
        while (call.find()) { calls.get(method).add(call.group(1)); }
      }
    }
    for (String name : faceNames()) {
      int deep = depth(calls, name, new TreeSet<>());
      demand(deep <= 8, name + "() goes " + deep + " calls deep");
    }
    demand(depth(calls, "wish", new TreeSet<>()) > 5, "the calls of wish() are not seen");
  }

  private static int depth(Map<String, Set<String>> calls, String name, Set<String> open) {
    if (!calls.containsKey(name) || !open.add(name)) { return 0; }
    int deepest = 0;
    for (String callee : calls.get(name)) { deepest = Math.max(deepest, depth(calls, callee, open)); }
    open.remove(name);
    return deepest + 1;
  }

  private static void lengths(String source) {
    int begin = 0;
    String[] lines = source.split("\n");
    for (int i = 0; i < lines.length; i++) {
      demand(lines[i].length() <= 120, "line " + (i + 1) + " is long");
      if (lines[i].matches(" {4,8}\\w.*\\) \\{")) { begin = i; }
      if (lines[i].matches(" {4,8}\\}")) { demand(i - begin <= 60 || lines[i].startsWith("    }"), "the method up to line " + (i + 1) + " is long"); }
    }
  }
}
