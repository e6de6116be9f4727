import java.lang.reflect.InvocationTargetException;
import java.lang.reflect.Method;

/**
 * Every call with every row of extreme arguments, in all sorts of states: none throws, and each
 * answer is no number below the findings. No object gets more than 512 calls.
 */
public final class ExtremesTest {
  private static final int[] NUMBERS = {
    Integer.MIN_VALUE, Integer.MIN_VALUE + 1, -1, 0, 1, 2, 7, 8, 16, 17, 63, 64, 256, Integer.MAX_VALUE,
  };
  private static final int[] FEWER = {Integer.MIN_VALUE, -1, 0, 1, 3, 8, 16, Integer.MAX_VALUE};
  // beside those that make the state
  private static final int MOST_CALLS = 400;
  private static final Due DUE = new Due();
  private static final Sentences.Made[] STATES = {
    ParquetLayer::new, Sentences::plain, Sentences::told, Sentences::full, Sentences::ring, Sentences::wholeGrid,
    () -> Sentences.floor(85, 170, 85, 170), () -> Sentences.floor(7, 7, 7),
  };

  private static Sentences.Made made;
  private static ParquetLayer object;
  private static int calls;

  public static void main(String[] args) throws Exception {
    for (Sentences.Made state : STATES) {
      made = state;
      calls = MOST_CALLS;
      for (Method method : ParquetLayer.class.getDeclaredMethods()) {
        if (java.lang.reflect.Modifier.isPublic(method.getModifiers())) all(method, new Object[method.getParameterCount()], 0);
      }
    }
    DUE.end();
  }

  private static void all(Method method, Object[] arguments, int at) throws Exception {
    if (at == arguments.length) {
      call(method, arguments);
      return;
    }
    if (method.getParameterTypes()[at] == boolean.class) {
      for (boolean b : new boolean[] {false, true}) {
        arguments[at] = b;
        all(method, arguments, at + 1);
      }
      return;
    }
    for (int n : arguments.length > 3 ? FEWER : NUMBERS) {
      arguments[at] = n;
      all(method, arguments, at + 1);
    }
  }

  private static void call(Method method, Object[] arguments) throws Exception {
    if (calls >= MOST_CALLS) {
      object = made.make();
      calls = 0;
    }
    calls++;
    String name = method.getName() + java.util.Arrays.toString(arguments);
    try {
      int answer = (Integer) method.invoke(object, arguments);
      DUE.holds(name + " answered " + answer, answer >= -100007);
    } catch (InvocationTargetException thrown) {
      DUE.holds(name + " threw " + thrown.getCause(), false);
    }
  }
}
