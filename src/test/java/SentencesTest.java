import java.lang.reflect.Method;
import java.nio.file.Files;
import java.nio.file.Path;
import java.util.ArrayList;
import java.util.Arrays;
import java.util.Comparator;
import java.util.LinkedHashMap;
import java.util.LinkedHashSet;
import java.util.List;
import java.util.Map;
import java.util.Set;
import java.util.regex.Matcher;
import java.util.regex.Pattern;

/** Runs all tests by sentence and looks whether each sentence of the document has one. */
public final class SentencesTest {
  private static final Due DUE = new Due();
  private static final Map<String, Set<String>> QUOTED = new LinkedHashMap<>();

  public static void main(String[] args) throws Exception {
    Sentences[] all = {
      new TermsSentences(DUE), new FloorSentences(DUE), new StonesSentences(DUE), new LayingsSentences(DUE),
      new HeightsSentences(DUE), new SheetsSentences(DUE),
    };
    int tests = 0;
    for (Sentences sentences : all) tests += runAll(sentences);
    Path document = Path.of("../shared/DOC.md");
    if (Files.exists(document)) compare(sentencesOf(Files.readString(document)));
    else System.out.println("without ../shared/DOC.md the quotes are not compared");
    System.out.println(tests + " tests by sentence");
    DUE.end();
  }

  private static int runAll(Sentences sentences) throws Exception {
    Method[] methods = sentences.getClass().getDeclaredMethods();
    Arrays.sort(methods, Comparator.comparing(Method::getName));
    int tests = 0;
    for (Method method : methods) {
      Matcher name = Pattern.compile("(promise\\d\\d|terms\\d)_\\w+").matcher(method.getName());
      if (!name.matches()) continue;
      sentences.begin(method.getName());
      method.invoke(sentences);
      DUE.holds(method.getName() + " asks", sentences.asked() > 0);
      DUE.holds(method.getName() + " quotes", !sentences.quoted().isEmpty());
      QUOTED.computeIfAbsent(name.group(1), k -> new LinkedHashSet<>()).addAll(sentences.quoted());
      tests++;
    }
    return tests;
  }

  private static void compare(Map<String, Set<String>> told) {
    told.forEach((key, sentences) -> {
      Set<String> quotes = QUOTED.getOrDefault(key, Set.of());
      for (String s : sentences) DUE.holds(key + " has a test of: " + s, quotes.contains(s));
      for (String q : quotes) DUE.holds(key + " says: " + q, sentences.contains(q));
    });
    for (String key : QUOTED.keySet()) DUE.holds(key + " is of the document", told.containsKey(key));
  }

  /** By "promise01" to "promise30" and "terms0" (ahead of the numbered terms) to "terms5". */
  private static Map<String, Set<String>> sentencesOf(String document) {
    Map<String, Set<String>> told = new LinkedHashMap<>();
    String[] sections = document.split("(?m)^## ");
    for (String section : sections) {
      String[] parts = section.split("\n", 2);
      Matcher promise = Pattern.compile("Promise (\\d+):.*").matcher(parts[0]);
      if (promise.matches()) {
        String text = parts[1].trim().replaceFirst("^`[^`]*`: ", "");
        told.put(String.format("promise%02d", Integer.parseInt(promise.group(1))), split(text));
      }
      if (parts[0].equals("Terms")) terms(told, parts[1]);
      if (parts[0].equals("What it is")) told.put("terms0", split(parts[1].trim().replaceFirst("(?s)^.*?\n\n", "")));
    }
    return told;
  }

  private static void terms(Map<String, Set<String>> told, String text) {
    String plain = text.replaceAll("(?m)^```.*$", "");
    String[] numbered = plain.split("(?m)^(?=\\d\\. )");
    for (int i = 0; i < numbered.length; i++) {
      String term = numbered[i].replaceFirst("^\\d\\. ", "");
      told.computeIfAbsent("terms" + i, k -> new LinkedHashSet<>()).addAll(split(term));
    }
  }

  private static Set<String> split(String text) {
    String line = text.replaceAll("\\s+", " ").trim();
    List<String> sentences = new ArrayList<>();
    Matcher ends = Pattern.compile("(?<!\\.)\\.\\)?(?= |$)").matcher(line);
    int from = 0;
    while (ends.find()) {
      sentences.add(line.substring(from, ends.end()).trim());
      from = ends.end();
    }
    return new LinkedHashSet<>(sentences);
  }
}
