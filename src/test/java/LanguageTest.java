import java.lang.reflect.Method;
import java.lang.reflect.Modifier;
import java.nio.file.Files;
import java.nio.file.Path;
import java.util.ArrayList;
import java.util.Arrays;
import java.util.List;
import java.util.regex.Matcher;
import java.util.regex.Pattern;

/** The face of the document, and what can be seen in the source of the rules of LANGUAGE.md. */
public final class LanguageTest {
  private static final String[] FACE = {
    "row(int,int)", "has(int)", "floor(int)", "stone(int,int,boolean,int)", "loose()", "as(int,int)",
    "told(int,int)", "count()", "with(int,boolean)", "lay(int)", "rank()", "next()", "draw(int)",
    "partner(int)", "turns()", "turn(int)", "height(int,int)", "extreme(boolean)", "apart(int,int)",
    "step(int,int,int)", "meet(int,int,boolean)", "lack()", "lacking(int)", "sheet(int,int,int)",
    "put(int,int,int)", "copy(int,int,int,int,int)", "planks(int)", "undo()", "all(int)",
  };
  private static final Due DUE = new Due();

  public static void main(String[] args) throws Exception {
    face();
    source(Files.readString(Path.of("src/main/java/ParquetLayer.java")));
    DUE.end();
  }

  private static void face() {
    Class<?> c = ParquetLayer.class;
    DUE.holds("public and final", Modifier.isPublic(c.getModifiers()) && Modifier.isFinal(c.getModifiers()));
    List<String> names = new ArrayList<>();
    for (Method m : c.getDeclaredMethods()) {
      if (Modifier.isPrivate(m.getModifiers())) continue;
      String params = String.join(",", Arrays.stream(m.getParameterTypes()).map(Class::getName).toList());
      names.add(m.getName() + "(" + params + ")");
      DUE.holds(m.getName() + " is public and answers an int",
          Modifier.isPublic(m.getModifiers()) && !Modifier.isStatic(m.getModifiers()) && m.getReturnType() == int.class);
    }
    for (String call : FACE) DUE.holds(call + " is there", names.remove(call));
    DUE.holds("no other member " + names, names.isEmpty());
    DUE.is("constructors", c.getConstructors().length, 1);
    for (var field : c.getDeclaredFields()) {
      DUE.holds(field.getName() + " is private", Modifier.isPrivate(field.getModifiers()));
    }
    DUE.holds("at most twelve classes", c.getDeclaredClasses().length <= 12);
    for (Class<?> inner : c.getDeclaredClasses()) inside(inner);
    for (Method m : c.getDeclaredMethods()) {
      boolean shared = Modifier.isPrivate(m.getModifiers()) && Arrays.stream(FACE).anyMatch(f -> f.startsWith(m.getName() + "("));
      DUE.holds(m.getName() + " is no name of the face", !shared);
    }
  }

  private static void inside(Class<?> inner) {
    DUE.holds(inner + " is static", Modifier.isStatic(inner.getModifiers()));
    long fields = Arrays.stream(inner.getDeclaredFields()).filter(f -> !Modifier.isStatic(f.getModifiers())).count();
    DUE.holds(inner + " has few fields", fields <= 20);
    for (Method m : inner.getDeclaredMethods()) {
      DUE.holds(m + " has few parameters", m.getParameterCount() <= 7);
      DUE.holds(m + " is no name of the face", Arrays.stream(FACE).noneMatch(f -> f.startsWith(m.getName() + "(")));
    }
  }

  private static void source(String text) {
    String code = text.replaceAll("(?s)/\\*.*?\\*/", "").replaceAll("//[^\n]*", "");
    String[] words = {
      "throw", "try", "catch", "synchronized", "assert", "->", "::", "Random", "Thread", "Exact",
      "equals", "hashCode", "toString", "double", "float", "package",
    };
    for (String word : words) {
      String pattern = Character.isLetter(word.charAt(0)) ? "\\b\\w*" + word + "\\b" : Pattern.quote(word);
      DUE.holds("without " + word, !Pattern.compile(pattern).matcher(code).find());
    }
    Matcher library = Pattern.compile("\\b(System|Arrays|Math|Long|Integer)\\.(\\w+)").matcher(code);
    List<String> known = List.of("System.arraycopy", "Arrays.fill", "Math.abs", "Math.min", "Math.max", "Long.bitCount");
    while (library.find()) DUE.holds(library.group() + " is of the list", known.contains(library.group()));
    Matcher imports = Pattern.compile("import ([^;]*);").matcher(code);
    while (imports.find()) DUE.holds("import " + imports.group(1), imports.group(1).equals("java.util.Arrays"));
    for (char sign : text.toCharArray()) {
      if (sign > 127) DUE.holds("plain signs", false);
    }
  }
}
