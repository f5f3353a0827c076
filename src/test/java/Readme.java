import java.io.BufferedReader;
import java.io.IOException;
import java.nio.file.DirectoryStream;
import java.nio.file.Files;
import java.nio.file.Path;
import java.util.ArrayList;
import java.util.List;
import java.util.TreeSet;
import java.util.regex.Matcher;
import java.util.regex.Pattern;

/**
 * Does what README.md tells a reader to do, in a copy of the checkout: puts its example into a file
 * and runs its commands, one block after another. The example has to print what it tells, and every
 * test has to have passed by these commands alone.
 */
public final class Readme {
  private static final Path CHECKOUT = Path.of("").toAbsolutePath();
  private static final Path TESTS = Path.of("src/test/java");
  private static final Path SHARED = Path.of("../shared/tests");

  private final String page;
  private final Path copy;
  private int wrong = 0;

  private Readme(Path room) throws IOException {
    page = Files.readString(Path.of("README.md"));
    copy = room.resolve("checkout");
    copyTree(CHECKOUT, copy);
    Files.createSymbolicLink(room.resolve("shared"), CHECKOUT.resolve("../shared").toRealPath());
  }

  /** What a reader has who has just got the project: neither git's files nor what was compiled. */
  private static void copyTree(Path from, Path to) throws IOException {
    Files.createDirectories(to);
    try (DirectoryStream<Path> entries = Files.newDirectoryStream(from)) {
      for (Path entry : entries) {
        String name = entry.getFileName().toString();
        if (Files.isDirectory(entry)) {
          if (!name.equals(".git") && !name.equals("out")) {
            copyTree(entry, to.resolve(name));
          }
        } else {
          Files.copy(entry, to.resolve(name));
        }
      }
    }
  }

  private void expect(String what, boolean holds) {
    if (!holds) {
      wrong++;
    }
    System.out.println((holds ? "ok: README.md, " : "FAILED: README.md, ") + what);
  }

  /** The page's blocks of a kind, as they stand between two rows of '`'. */
  private List<String> blocks(String kind) {
    List<String> blocks = new ArrayList<>();
    Matcher block = Pattern.compile("(?ms)^```" + kind + "\n(.*?)^```$").matcher(page);
    while (block.find()) {
      blocks.add(block.group(1));
    }
    return blocks;
  }

  /** The example's answers: what it tells behind each line that prints, up to a comma. */
  private static List<String> answersTold(String example) {
    List<String> told = new ArrayList<>();
    for (String line : example.split("\n")) {
      if (line.contains("System.out.println(")) {
        Matcher answer = Pattern.compile("; // ([^,]+)(, .*)?$").matcher(line);
        told.add(answer.find() ? answer.group(1) : "no answer behind: " + line.strip());
      }
    }
    return told;
  }

  private static List<String> run(String commands, Path place)
      throws IOException, InterruptedException {
    Process process = new ProcessBuilder("sh", "-e", "-c", commands)
        .directory(place.toFile()).redirectErrorStream(true).start();
    List<String> lines = new ArrayList<>();
    try (BufferedReader output = process.inputReader()) {
      for (String line = output.readLine(); line != null; line = output.readLine()) {
        lines.add(line);
        System.out.println(line);
      }
    }
    lines.add("exit code " + process.waitFor());
    return lines;
  }

  private void runAll() throws IOException, InterruptedException {
    List<String> examples = blocks("java");
    expect("there is one example", examples.size() == 1);
    String example = String.join("", examples);
    Files.writeString(copy.resolve("Example.java"), example);
    List<String> all = new ArrayList<>();
    int timesOfExample = 0;
    for (String commands : blocks("sh")) {
      List<String> lines = run(commands, copy);
      String end = lines.remove(lines.size() - 1);
      expect("this runs: " + String.join("; ", commands.strip().split("\n")),
          end.equals("exit code 0"));
      all.addAll(lines);
      if (commands.contains("java -cp out Example")) {
        timesOfExample++;
        expectAnswers(answersTold(example), lines);
      }
    }
    expect("its example is run", timesOfExample == 1);
    expectTests(all);
  }

  private void expectAnswers(List<String> told, List<String> printed) {
    expect("the example tells answers, and prints as many", told.size() > 5
        && told.size() == printed.size());
    for (int at = 0; at < told.size() && at < printed.size(); at++) {
      expect("the example tells " + told.get(at) + " and prints " + printed.get(at),
          told.get(at).equals(printed.get(at)));
    }
  }

  private void expectTests(List<String> lines) throws IOException {
    String alone = "src/main/java/Forkhouse.java compiles alone";
    expect("by its commands " + alone, lines.contains("ok: " + alone));
    List<Path> tests = filesOf(TESTS, "*Test.java");
    List<Path> shared = filesOf(SHARED, "*.java");
    expect("there are tests", !tests.isEmpty() && !shared.isEmpty());
    tests.addAll(shared);
    for (Path test : tests) {
      expect("by its commands has passed: " + test, lines.contains("ok: " + test));
    }
  }

  private static List<Path> filesOf(Path place, String pattern) throws IOException {
    List<Path> files = new ArrayList<>();
    try (DirectoryStream<Path> entries = Files.newDirectoryStream(place, pattern)) {
      entries.forEach(files::add);
    }
    return files;
  }

  /** The page names each test, and each file and class that it names is there. */
  private void expectNames() throws IOException {
    TreeSet<String> tests = new TreeSet<>();
    for (Path test : filesOf(TESTS, "*Test.java")) {
      tests.add(test.getFileName().toString().replace(".java", ""));
    }
    TreeSet<String> named = new TreeSet<>();
    Matcher name = Pattern.compile("`([A-Z]\\w+)").matcher(page);
    while (name.find()) {
      String word = name.group(1);
      expect("there is a class " + word, word.equals("Forkhouse") || word.equals("Example")
          || Files.exists(TESTS.resolve(word + ".java")));
      if (word.endsWith("Test")) {
        named.add(word);
      }
    }
    expect("it names each test: " + tests, named.equals(tests));
    Matcher file = Pattern.compile("`((?:\\.\\./|\\.|)\\w[\\w/.]*[/.]\\w+)`").matcher(page);
    while (file.find()) {
      expect("there is " + file.group(1), file.group(1).equals("Example.java")
          || Files.exists(Path.of(file.group(1))));
    }
  }

  public static void main(String[] args) throws IOException, InterruptedException {
    if (args.length != 1) {
      System.out.println("Readme needs a directory to work in");
      System.exit(1);
    }
    Readme readme = new Readme(Path.of(args[0]).toAbsolutePath());
    readme.expectNames();
    readme.runAll();
    System.out.println(readme.wrong == 0 ? "README.md is as it says" : readme.wrong + " FAILED");
    System.exit(readme.wrong == 0 ? 0 : 1);
  }
}
