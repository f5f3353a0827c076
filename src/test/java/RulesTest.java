import java.io.IOException;
import java.lang.reflect.Constructor;
import java.lang.reflect.Field;
import java.lang.reflect.Method;
import java.lang.reflect.Modifier;
import java.nio.file.Files;
import java.nio.file.Path;
import java.util.ArrayList;
import java.util.List;
import java.util.Set;
import java.util.TreeSet;
import java.util.regex.Matcher;
import java.util.regex.Pattern;

/** The face that the document gives, and those rules of the language that can be looked for. */
public final class RulesTest {
  private static final Path SOURCE = Path.of("src/main/java/Forkhouse.java");

  private RulesTest() {}

  /** The face as ../shared/DOC.md writes it. */
  private static List<String> faceOfDocument() throws IOException {
    String document = Files.readString(Path.of("../shared/DOC.md"));
    String face = document.substring(document.indexOf("```java"), document.indexOf("\n}\n```"));
    List<String> lines = new ArrayList<>();
    for (String line : face.split("\n")) {
      String told = line.strip();
      if (told.startsWith("public ") && told.endsWith(";")) {
        lines.add(told.substring(0, told.length() - 1)
            .replaceAll("(int|char|long|boolean) \\w+([,)])", "$1$2"));
      }
    }
    lines.sort(null);
    return lines;
  }

  private static List<String> faceOfClass() {
    List<String> lines = new ArrayList<>();
    for (Constructor<?> made : Forkhouse.class.getDeclaredConstructors()) {
      Check.same("the constructor is public", Modifier.isPublic(made.getModifiers()), true);
      lines.add("public Forkhouse()" + thrown(made.getExceptionTypes()));
      Check.same("the constructor takes nothing", made.getParameterCount(), 0);
    }
    for (Method method : Forkhouse.class.getDeclaredMethods()) {
      if (!Modifier.isPrivate(method.getModifiers())) {
        List<String> types = new ArrayList<>();
        for (Class<?> type : method.getParameterTypes()) {
          types.add(type.getSimpleName());
        }
        lines.add(Modifier.toString(method.getModifiers()) + " "
            + method.getReturnType().getSimpleName() + " " + method.getName()
            + "(" + String.join(", ", types) + ")" + thrown(method.getExceptionTypes()));
      }
    }
    lines.sort(null);
    return lines;
  }

  private static String thrown(Class<?>[] types) {
    List<String> names = new ArrayList<>();
    for (Class<?> type : types) {
      names.add(type.getSimpleName());
    }
    return names.isEmpty() ? "" : " throws " + String.join(", ", names);
  }

  private static void face() throws IOException {
    List<String> due = faceOfDocument();
    Check.same("calls in the document", due.size(), 53);
    Check.same("the face", faceOfClass(), due);
    Check.same("the class is public and final", Modifier.toString(Forkhouse.class.getModifiers()),
        "public final");
    for (Field field : Forkhouse.class.getDeclaredFields()) {
      Check.same("private: " + field, Modifier.isPrivate(field.getModifiers()), true);
    }
  }

  private static void classesInside() {
    Set<String> face = new TreeSet<>();
    for (Method method : Forkhouse.class.getDeclaredMethods()) {
      if (Modifier.isPublic(method.getModifiers())) {
        face.add(method.getName());
      }
    }
    for (Method method : Forkhouse.class.getDeclaredMethods()) {
      if (Modifier.isPrivate(method.getModifiers())) {
        Check.same("a name of the face: " + method, face.contains(method.getName()), false);
      }
    }
    int classes = 1;
    for (Class<?> inside : Forkhouse.class.getDeclaredClasses()) {
      classes++;
      Check.same("static: " + inside, Modifier.isStatic(inside.getModifiers()), true);
      Check.same("not public: " + inside, Modifier.isPublic(inside.getModifiers()), false);
      statics(inside);
      for (Method method : inside.getDeclaredMethods()) {
        boolean isPrivate = Modifier.isPrivate(method.getModifiers());
        Check.same("a private name of the face: " + method,
            isPrivate && face.contains(method.getName()), false);
        Check.same("at most seven parameters: " + method, method.getParameterCount() <= 7, true);
      }
    }
    statics(Forkhouse.class);
    Check.same("at most twelve classes", classes <= 12, true);
  }

  private static void statics(Class<?> type) {
    int fields = 0;
    for (Field field : type.getDeclaredFields()) {
      if (Modifier.isStatic(field.getModifiers())) {
        Check.same("final: " + field, Modifier.isFinal(field.getModifiers()), true);
      } else {
        fields++;
      }
    }
    Check.same("at most twenty fields: " + type, fields <= 20, true);
  }

  /** The program without its comments. */
  private static String code() throws IOException {
    return Files.readString(SOURCE)
        .replaceAll("(?s)/\\*.*?\\*/", " ")
        .replaceAll("//[^\n]*", " ");
  }

  private static void words() throws IOException {
    String code = code();
    String[] forbidden = {
      "->(?!\")", "::", "\\w+Exact\\b", "\\bfinally\\b", "\\btry\\b", "\\bcatch\\b",
      "\\bsynchronized\\b", "\\bassert\\b", "\\binstanceof\\b", "\\bpackage\\b", "\\bMath\\.random",
      "\\bSystem\\.(?!arraycopy)", "\\bString\\.", "\\bBigInteger\\b", "\\bThread\\b",
      "\\bdouble\\b", "\\bfloat\\b", "\\bequals\\b", "\\bhashCode\\b", "\\btoString\\b",
      "\\bArrays\\.(?!fill|copyOf|copyOfRange)", "\\bHashMap\\b", "\\bBitSet\\b", "\\bvar\\b",
      "static \\{", "\\bextends\\b", "@"
    };
    for (String word : forbidden) {
      Matcher found = Pattern.compile(word).matcher(code);
      Check.same("not in the program: " + word, found.find() ? found.group() : "", "");
    }
    Matcher imports = Pattern.compile("import ([\\w.]+);").matcher(code);
    List<String> imported = new ArrayList<>();
    while (imports.find()) {
      imported.add(imports.group(1));
    }
    Check.same("imports", imported,
        List.of("java.util.Arrays", "java.util.NoSuchElementException"));
    Matcher throwing = Pattern.compile("throw (?!new (IllegalStateException|IllegalArgumentException"
        + "|IndexOutOfBoundsException|UnsupportedOperationException|NoSuchElementException)"
        + "\\(\"[ -~]*\"\\);)").matcher(code);
    Check.same("each throw is plain", throwing.find(), false);
    for (char sign : Files.readString(SOURCE).toCharArray()) {
      if (sign > 126) {
        Check.same("a sign of the program", (int) sign, 126);
      }
    }
  }

  /** Objects and arrays are made by constructors and in initialisers alone. */
  private static void noObjectsInCalls() throws IOException {
    String[] lines = code().split("\n");
    String method = "";
    for (String line : lines) {
      Matcher start = Pattern.compile("^ {2,4}(?:[\\w<>\\[\\]]+ )*(\\w+)\\([^;]*$").matcher(line);
      if (start.find() && !line.strip().startsWith("if") && !line.strip().startsWith("for")) {
        method = start.group(1);
      }
      boolean makes = line.contains("new ") && !line.contains("throw new ");
      boolean isField = line.contains(" final ");
      boolean isConstructor = !method.isEmpty() && Character.isUpperCase(method.charAt(0));
      if (makes && !isField && !isConstructor) {
        Check.same("made in " + method, line.strip(), "nothing");
      }
    }
    Check.same("methods were seen", method.isEmpty(), false);
  }

  /** Methods of at most some sixty lines. */
  private static void shortMethods() throws IOException {
    String[] lines = Files.readString(SOURCE).split("\n");
    int methods = 0;
    int start = -1;
    for (int at = 0; at < lines.length; at++) {
      boolean opens = lines[at].matches("^( {2}| {4})(?! )[^=;]*\\([^;]*") && start < 0;
      if (opens) {
        start = at;
        methods++;
      }
      if (start >= 0 && lines[at].matches("^( {2}| {4})}")) {
        Check.same("short: " + lines[start].strip(), at - start <= 60, true);
        start = -1;
      }
    }
    Check.same("methods were seen", methods > 100, true);
  }

  public static void main(String[] args) throws IOException {
    face();
    classesInside();
    words();
    noObjectsInCalls();
    shortMethods();
    Check.end("RulesTest");
  }
}
