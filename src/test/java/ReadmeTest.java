import java.lang.reflect.Method;
import java.nio.file.Files;
import java.nio.file.Path;
import java.util.ArrayList;
import java.util.List;
import java.util.Set;
import java.util.TreeSet;
import java.util.regex.Matcher;
import java.util.regex.Pattern;

/** README.md: each line of its examples answers what stands behind it, and all tests are named. */
public final class ReadmeTest {
  private static final Pattern MADE = Pattern.compile("ParquetLayer p = new ParquetLayer\\(\\);");
  private static final Pattern CALL = Pattern.compile("p\\.(\\w+)\\(([^)]*)\\);\\s+// (-?\\d+)(?:: .*)?");
  private static final Due DUE = new Due();
  private static final Set<String> CALLED = new TreeSet<>();

  public static void main(String[] args) throws Exception {
    String readme = Files.readString(Path.of("README.md"));
    Matcher blocks = Pattern.compile("(?s)```java\n(.*?)```").matcher(readme);
    while (blocks.find()) example(blocks.group(1));
    for (Method method : ParquetLayer.class.getDeclaredMethods()) {
      if (!java.lang.reflect.Modifier.isPublic(method.getModifiers())) continue;
      DUE.holds(method.getName() + " is in an example", CALLED.contains(method.getName()));
    }
    findings(readme);
    tests(readme);
    DUE.end();
  }

  private static void example(String block) throws Exception {
    ParquetLayer p = null;
    for (String line : block.split("\n")) {
      if (MADE.matcher(line).matches()) {
        p = new ParquetLayer();
        continue;
      }
      Matcher call = CALL.matcher(line);
      boolean read = p != null && call.matches();
      DUE.holds("can be read: " + line, read);
      if (read) DUE.is(line, answer(p, call.group(1), call.group(2)), Integer.parseInt(call.group(3)));
    }
  }

  private static int answer(ParquetLayer p, String name, String told) throws Exception {
    List<Class<?>> types = new ArrayList<>();
    List<Object> arguments = new ArrayList<>();
    for (String word : told.isEmpty() ? new String[0] : told.split(", ")) {
      boolean truth = word.equals("true") || word.equals("false");
      types.add(truth ? boolean.class : int.class);
      arguments.add(truth ? (Object) Boolean.valueOf(word) : (Object) number(word));
    }
    CALLED.add(name);
    Method method = ParquetLayer.class.getMethod(name, types.toArray(new Class<?>[0]));
    return (Integer) method.invoke(p, arguments.toArray());
  }

  private static Integer number(String word) {
    return word.startsWith("0b") ? Integer.valueOf(word.substring(2), 2) : Integer.valueOf(word);
  }

  /** The findings have the names and the numbers of the document. */
  private static void findings(String readme) throws Exception {
    String document = Files.readString(Path.of("../shared/DOC.md"));
    Matcher row = Pattern.compile("(?m)^\\| ([A-Z]+) \\| (-\\d+) \\|").matcher(readme);
    int rows = 0;
    while (row.find()) {
      DUE.holds(row.group(), document.contains(row.group(2) + " " + row.group(1)));
      rows++;
    }
    DUE.is("findings", rows, 7);
  }

  private static void tests(String readme) throws Exception {
    Set<String> there = new TreeSet<>();
    try (var files = Files.list(Path.of("src/test/java"))) {
      files.map(file -> file.getFileName().toString().replace(".java", "")).forEach(there::add);
    }
    for (String name : there) {
      if (name.endsWith("Test")) DUE.holds(name + " is named", readme.contains("- `" + name + "`: "));
    }
    Matcher named = Pattern.compile("`([A-Z]\\w*(?:Test|Sentences)|Model|State)`").matcher(readme);
    while (named.find()) DUE.holds(named.group(1) + " is there", there.contains(named.group(1)));
    DUE.holds(".ci/run is there", Files.isExecutable(Path.of(".ci/run")));
  }
}
