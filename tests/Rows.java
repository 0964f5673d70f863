import java.lang.reflect.Method;
import java.util.ArrayList;
import java.util.Arrays;
import java.util.HashMap;
import java.util.List;
import java.util.Map;

/**
 * Calls and the answers that are due, told as texts: "fed(3) = 1", "fed(10) = BEYOND". A call may be asked of a FedHen
 * or of a Model; "tape room 7" feeds the bytes of what stands behind "tape ".
 */
final class Rows {
  private static final Map<String, Integer> NAMES = Map.of("BEYOND", Check.BEYOND, "FULL", Check.FULL, "KIND",
      Check.KIND, "NONE", Check.NONE, "STATE", Check.STATE, "MISSING", Check.MISSING, "SIZE", Check.SIZE, "MIN",
      Integer.MIN_VALUE, "MAX", Integer.MAX_VALUE);
  private static final Map<String, Method> METHODS = new HashMap<>();

  private Rows() {}

  /** Asks all rows of a hen, in their order. */
  static void due(String where, FedHen x, String... rows) {
    for (String row : rows) {
      Check.due(where + ": " + callOf(row), ask(x, callOf(row)), answerOf(row));
    }
  }

  /** The same on a new hen, on which the calls of a setup went ahead. */
  static void after(List<String> setup, String where, String... rows) {
    due(where, make(setup), rows);
  }

  static FedHen make(List<String> setup) {
    return with(new FedHen(), setup);
  }

  static <T> T with(T x, List<String> setup) {
    for (String call : setup) {
      ask(x, call);
    }
    return x;
  }

  static String callOf(String row) {
    return row.substring(0, row.lastIndexOf('=')).trim();
  }

  static int answerOf(String row) {
    return number(row.substring(row.lastIndexOf('=') + 1));
  }

  static int ask(Object x, String call) {
    if (call.startsWith("tape ")) {
      return tape(x, call.substring(5));
    }
    int open = call.indexOf('(');
    String inside = call.substring(open + 1, call.lastIndexOf(')')).trim();
    String[] parts = inside.isEmpty() ? new String[0] : inside.split(",");
    int[] values = new int[parts.length];
    for (int i = 0; i < parts.length; i++) {
      values[i] = number(parts[i]);
    }
    return ask(x, call.substring(0, open), values);
  }

  static int ask(Object x, String name, int... values) {
    try {
      return (Integer) method(x.getClass(), name, values.length).invoke(x, Arrays.stream(values).boxed().toArray());
    } catch (ReflectiveOperationException e) {
      throw new IllegalStateException(name + Arrays.toString(values), e);
    }
  }

  private static Method method(Class<?> c, String name, int parameters) throws NoSuchMethodException {
    String key = c.getName() + " " + name + " " + parameters;
    Method method = METHODS.get(key);
    if (method == null) {
      Class<?>[] types = new Class<?>[parameters];
      Arrays.fill(types, int.class);
      method = c.getDeclaredMethod(name, types);
      METHODS.put(key, method);
    }
    return method;
  }

  private static int number(String text) {
    Integer named = NAMES.get(text.trim());
    return named != null ? named : Integer.parseInt(text.trim());
  }

  /** Feeds a text by four bytes at once; how many the tape has then. */
  static int tape(Object x, String text) {
    int has = 0;
    for (int at = 0; at < text.length(); at += 4) {
      int n = Math.min(4, text.length() - at);
      int bytes = 0;
      for (int i = 0; i < n; i++) {
        bytes = bytes << 8 | text.charAt(at + i) & 255;
      }
      has = ask(x, "feed", bytes, n);
    }
    return has;
  }

  /** The calls by which a new hen comes to a DAY, and then some more. */
  static List<String> at(int day, String... more) {
    List<String> calls = new ArrayList<>();
    for (int left = day; left > 0; left -= 60) {
      calls.add("days(" + Math.min(60, left) + ")");
    }
    calls.addAll(List.of(more));
    return calls;
  }
}
