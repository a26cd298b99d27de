import java.io.IOException;
import java.lang.reflect.Method;
import java.lang.reflect.Modifier;
import java.nio.file.Files;
import java.nio.file.Path;
import java.util.Set;
import java.util.TreeSet;
import java.util.regex.Matcher;
import java.util.regex.Pattern;

/** Does the calls that README.md tells, one after the other on a new object, and compares their answers. */
public final class ReadmeTest {
  private static final Check T = new Check("ReadmeTest");
  private static final Pattern CALL = Pattern.compile("c\\.(\\w+)\\((.*?)\\);\\s*// (true|false|-?\\d+)\\b.*");

  public static void main(String[] args) throws IOException {
    CabinPeace c = new CabinPeace();
    Set<String> done = new TreeSet<>();
    for (String line : Files.readAllLines(Path.of("README.md"))) {
      if (line.startsWith("c.")) {
        Matcher call = CALL.matcher(line);
        T.due(0, "form of " + line, call.matches(), true);
        if (call.matches()) {
          done.add(call.group(1));
          T.due(0, line, Both.on(c, call.group(1), numbers(call.group(2))), number(call.group(3)));
        }
      }
    }
    for (Method m : CabinPeace.class.getDeclaredMethods()) {
      if (Modifier.isPublic(m.getModifiers())) { T.due(0, "README.md shows " + m.getName(), done.contains(m.getName()), true); }
    }
    T.end();
  }

  private static long[] numbers(String list) {
    String[] each = list.isEmpty() ? new String[0] : list.split(", *");
    long[] found = new long[each.length];
    for (int i = 0; i < each.length; i++) { found[i] = number(each[i]); }
    return found;
  }

  private static long number(String told) {
    return told.equals("true") ? 1 : told.equals("false") ? 0 : Long.decode(told);
  }
}
