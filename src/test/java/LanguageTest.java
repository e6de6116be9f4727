import java.lang.reflect.Field;
import java.lang.reflect.Method;
import java.lang.reflect.Modifier;
import java.nio.file.Files;
import java.nio.file.Path;
import java.util.ArrayList;
import java.util.Arrays;
import java.util.List;
import java.util.regex.Matcher;
import java.util.regex.Pattern;

/** The face of the document, and what can be seen in the source of the rules of LANGUAGE.md. */
public final class LanguageTest {
  private static final List<String> FACE = new ArrayList<>();
  private static final Due DUE = new Due();

  public static void main(String[] args) throws Exception {
    String source = Files.readString(Path.of("src/main/java/ParquetLayer.java"));
    document(Files.readString(Path.of("../shared/DOC.md")), source);
    face();
    source(source);
    lengths(source);
    DUE.end();
  }

  /** The face as the document prints it stands in the source, with the same names of arguments. */
  private static void document(String text, String source) {
    Matcher block = Pattern.compile("(?s)```java\n(.*?)```").matcher(text);
    DUE.holds("the document prints a face", block.find());
    Matcher call = Pattern.compile("public int (\\w+)\\((.*?)\\);").matcher(block.group(1));
    while (call.find()) {
      FACE.add(call.group(1) + "(" + call.group(2).replaceAll(" \\w+(, |$)", ",").replaceAll(",$", "") + ")");
      String line = call.group().replace(";", " {");
      DUE.holds(line + " stands in the source", source.contains("\n    " + line + "\n"));
    }
    DUE.is("calls", FACE.size(), 29);
    DUE.holds("the head", source.contains("\npublic final class ParquetLayer {\n"));
  }

  private static void face() {
    Class<?> c = ParquetLayer.class;
    DUE.holds("public and final", Modifier.isPublic(c.getModifiers()) && Modifier.isFinal(c.getModifiers()));
    List<String> names = new ArrayList<>();
    for (Method m : c.getDeclaredMethods()) {
      if (Modifier.isPrivate(m.getModifiers())) continue;
      String params = String.join(",", Arrays.stream(m.getParameterTypes()).map(Class::getName).toList());
      names.add(m.getName() + "(" + params + ")");
      DUE.holds(m.getName() + " is public and answers an int",
          Modifier.isPublic(m.getModifiers()) && !Modifier.isStatic(m.getModifiers()) && m.getReturnType() == int.class);
    }
    for (String call : FACE) DUE.holds(call + " is there", names.remove(call));
    DUE.holds("no other member " + names, names.isEmpty());
    DUE.is("constructors", c.getConstructors().length, 1);
    DUE.is("all constructors", c.getDeclaredConstructors().length, 1);
    for (Field field : c.getDeclaredFields()) {
      DUE.holds(field.getName() + " is private", Modifier.isPrivate(field.getModifiers()));
    }
    statics(c);
    DUE.holds("at most twelve classes", c.getDeclaredClasses().length <= 12);
    for (Class<?> inner : c.getDeclaredClasses()) inside(inner);
    for (Method m : c.getDeclaredMethods()) {
      boolean shared = Modifier.isPrivate(m.getModifiers()) && FACE.stream().anyMatch(f -> f.startsWith(m.getName() + "("));
      DUE.holds(m.getName() + " is no name of the face", !shared);
    }
  }

  private static void statics(Class<?> c) {
    List<Class<?>> types = List.of(int.class, long.class, boolean.class, char.class, String.class);
    for (Field field : c.getDeclaredFields()) {
      if (!Modifier.isStatic(field.getModifiers())) continue;
      DUE.holds(field + " is final", Modifier.isFinal(field.getModifiers()));
      DUE.holds(field + " is a constant", types.contains(field.getType()));
    }
  }

  private static void inside(Class<?> inner) {
    DUE.holds(inner + " is static", Modifier.isStatic(inner.getModifiers()));
    DUE.is(inner + " has no classes inside", inner.getDeclaredClasses().length, 0);
    statics(inner);
    long fields = Arrays.stream(inner.getDeclaredFields()).filter(f -> !Modifier.isStatic(f.getModifiers())).count();
    DUE.holds(inner + " has few fields", fields <= 20);
    for (Method m : inner.getDeclaredMethods()) {
      DUE.holds(m + " has few parameters", m.getParameterCount() <= 7);
      DUE.holds(m + " is no name of the face", FACE.stream().noneMatch(f -> f.startsWith(m.getName() + "(")));
    }
  }

  /** A method begins with a line that ends with ") {" and ends with the next "}" that stands as deep. */
  private static void lengths(String text) {
    String[] lines = text.split("\n");
    int methods = 0;
    for (int i = 0; i < lines.length; i++) {
      Matcher head = Pattern.compile("(    |        )[a-zA-Z][\\w\\[\\] ]*\\(.*\\) \\{").matcher(lines[i]);
      if (!head.matches() || lines[i].matches("\\s*(if|for|while|switch) .*")) continue;
      int end = i;
      while (!lines[end].equals(head.group(1) + "}")) end++;
      DUE.holds(lines[i].trim() + " is short", end - i < 60);
      methods++;
    }
    DUE.holds("methods were found", methods > 100);
  }

  private static void source(String text) {
    String code = text.replaceAll("(?s)/\\*.*?\\*/", "").replaceAll("//[^\n]*", "");
    String[] words = {
      "throw", "try", "catch", "synchronized", "assert", "->", "::", "Random", "Thread", "Exact",
      "equals", "hashCode", "toString", "double", "float", "package",
    };
    for (String word : words) {
      String pattern = Character.isLetter(word.charAt(0)) ? "\\b\\w*" + word + "\\b" : Pattern.quote(word);
      DUE.holds("without " + word, !Pattern.compile(pattern).matcher(code).find());
    }
    Matcher library = Pattern.compile("\\b(System|Arrays|Math|Long|Integer)\\.(\\w+)").matcher(code);
    List<String> known = List.of("System.arraycopy", "Arrays.fill", "Math.abs", "Math.min", "Math.max", "Long.bitCount");
    while (library.find()) DUE.holds(library.group() + " is of the list", known.contains(library.group()));
    Matcher imports = Pattern.compile("import ([^;]*);").matcher(code);
    while (imports.find()) DUE.holds("import " + imports.group(1), imports.group(1).equals("java.util.Arrays"));
    for (char sign : text.toCharArray()) {
      if (sign > 127) DUE.holds("plain signs", false);
    }
  }
}
