import java.lang.reflect.InvocationTargetException;
import java.lang.reflect.Method;
import java.util.ArrayList;
import java.util.HashMap;
import java.util.List;
import java.util.Map;

/**
 * Calls told as lines on a house, which is a Forkhouse or a PlainHouse: "make 0 1 2 &" is a call of
 * make. A sign that is told by its code has '#' ahead of it. Some lines stand for more calls:
 * "text a&b" types a text, "formula 0 a&b" reads it, "letter 0 g", "sets 1 3 5" and
 * "states 2 0 31" fill slots, "moves 0 1-2 2-3" makes a step by way of the family 5, and "told",
 * "list 1" and "order" tell more than a call does; "mark" notes the sum, "marked" tells
 * whether it is as noted, and "repeat 5 erase" stands for a line told five times.
 */
final class Script {
  private static final Map<Class<?>, Map<String, Method>> METHODS = new HashMap<>();

  private final Object house;
  private int calls;
  private String mark = "";

  Script(Object house) {
    this.house = house;
  }

  int calls() {
    return calls;
  }

  /** What a line answers, or the exception that it throws. */
  String answer(String line) {
    int space = line.indexOf(' ');
    String name = space < 0 ? line : line.substring(0, space);
    String rest = space < 0 ? "" : line.substring(space + 1);
    switch (name) {
      case "text": return text(rest);
      case "formula": return formula(rest);
      case "sets": return sets(words(rest));
      case "states": return states(words(rest));
      case "moves": return moves(words(rest));
      case "told": return told();
      case "list": return list(rest);
      case "order": return order();
      case "repeat": return repeat(rest);
      case "mark": return mark = call("checksum");
      case "marked": return String.valueOf(mark.equals(call("checksum")));
      default: return call(name, words(rest));
    }
  }

  private static String[] words(String rest) {
    return rest.isEmpty() ? new String[0] : rest.split(" ");
  }

  private String text(String signs) {
    call("erase");
    String answer = "0";
    for (char sign : signs.toCharArray()) {
      answer = call("type", "#" + (int) sign);
    }
    return answer;
  }

  private String formula(String rest) {
    text(rest.substring(2));
    return call("read", rest.substring(0, 1));
  }

  private String sets(String[] words) {
    String answer = call("join", words[0], words[0], words[0], "-");
    for (int at = 1; at < words.length; at++) {
      answer = call("add", words[0], words[at]);
    }
    return answer;
  }

  private String states(String[] words) {
    long bits = 0;
    for (int at = 1; at < words.length; at++) {
      int state = Integer.parseInt(words[at]);
      bits |= 1L << state | 1L << state + 32;
    }
    return call("table", words[0], String.valueOf(bits));
  }

  private String moves(String[] words) {
    call("join", "5", "5", "5", "-");
    for (int at = 1; at < words.length; at++) {
      String[] ends = words[at].split("-");
      int row = Integer.parseInt(ends[0]) + 32 * Integer.parseInt(ends[1]);
      call("add", "5", String.valueOf(row));
    }
    return call("ofFamily", words[0], "5");
  }

  private String told() {
    StringBuilder signs = new StringBuilder();
    for (int place = 0; place < 100; place++) {
      String sign = call("signAt", String.valueOf(place));
      if (sign.startsWith("throws.")) {
        break;
      }
      signs.append(sign);
    }
    return signs.toString();
  }

  private String list(String family) {
    List<String> sets = new ArrayList<>();
    for (int index = 0; index < 300; index++) {
      String set = call("setAt", family, String.valueOf(index));
      if (set.startsWith("throws.")) {
        break;
      }
      sets.add(set);
    }
    return String.join(" ", sets);
  }

  private String order() {
    char[] order = "??????????".toCharArray();
    for (int variable = 0; variable < 10; variable++) {
      int place = Integer.parseInt(call("placeOf", String.valueOf(variable)));
      order[place] = (char) ('a' + variable);
    }
    return new String(order);
  }

  private String repeat(String rest) {
    int space = rest.indexOf(' ');
    int times = Integer.parseInt(rest.substring(0, space));
    String answer = "";
    for (int time = 0; time < times; time++) {
      answer = answer(rest.substring(space + 1));
    }
    return answer;
  }

  private String call(String name, String... words) {
    calls++;
    Method method = METHODS.computeIfAbsent(house.getClass(), Script::methodsOf).get(name);
    if (method == null || method.getParameterCount() != words.length) {
      throw new AssertionError("no such call: " + name + " " + String.join(" ", words));
    }
    Object[] arguments = new Object[words.length];
    for (int at = 0; at < words.length; at++) {
      arguments[at] = argument(method.getParameterTypes()[at], words[at]);
    }
    try {
      return String.valueOf(method.invoke(house, arguments));
    } catch (InvocationTargetException e) {
      return "throws." + e.getCause().getClass().getSimpleName();
    } catch (IllegalAccessException e) {
      throw new AssertionError(e);
    }
  }

  private static Map<String, Method> methodsOf(Class<?> type) {
    Map<String, Method> methods = new HashMap<>();
    for (Method method : type.getDeclaredMethods()) {
      if (!java.lang.reflect.Modifier.isPrivate(method.getModifiers())) {
        methods.put(method.getName(), method);
      }
    }
    return methods;
  }

  private static Object argument(Class<?> type, String word) {
    if (type == char.class) {
      return word.length() == 1 ? word.charAt(0) : (char) Integer.parseInt(word.substring(1));
    }
    if (type == long.class) {
      return word.startsWith("0x") ? Long.parseUnsignedLong(word.substring(2), 16)
          : (Object) Long.parseLong(word);
    }
    if (type == boolean.class) {
      return Boolean.parseBoolean(word);
    }
    if (word.equals("MIN")) {
      return Integer.MIN_VALUE;
    }
    return word.equals("MAX") ? (Object) Integer.MAX_VALUE : (Object) Integer.parseInt(word);
  }
}
