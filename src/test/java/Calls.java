import java.lang.reflect.Method;
import java.util.HashMap;
import java.util.Map;

/** Calls told in a text: the name and the numbers, "house 3 0 99". MIN and MAX stand for the ends of an int. */
final class Calls {
  private static final Map<String, Method> METHODS = new HashMap<>();

  static {
    for (Method m : SneezeLights.class.getDeclaredMethods()) {
      METHODS.put(m.getName(), m);
    }
  }

  private Calls() {
  }

  static long call(SneezeLights x, String told) {
    String[] parts = told.split(" ");
    Method method = METHODS.get(parts[0]);
    Object[] given = new Object[parts.length - 1];
    for (int i = 0; i < given.length; i++) {
      long v = number(parts[i + 1]);
      if (method.getParameterTypes()[i] == long.class) {
        given[i] = v;
      } else {
        given[i] = Math.toIntExact(v);
      }
    }
    try {
      return ((Number) method.invoke(x, given)).longValue();
    } catch (ReflectiveOperationException e) {
      throw new IllegalStateException(told, e);
    }
  }

  private static long number(String told) {
    switch (told) {
      case "MIN": return Integer.MIN_VALUE;
      case "MAX": return Integer.MAX_VALUE;
      default: return Long.parseLong(told);
    }
  }
}
