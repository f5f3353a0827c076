import java.io.IOException;
import java.util.ArrayList;
import java.util.LinkedHashSet;
import java.util.List;
import java.util.Set;
import java.util.TreeSet;

/**
 * Holds sentences of the document against the class: each one by lines of calls with the answers
 * that are due, on a house of its own. All lines run on the plain house too. A call that is refused
 * is run once more, to look at all that must stay as it was.
 */
final class Edges {
  static final String BOUNDS = " = throws.IndexOutOfBoundsException";
  static final String ARGUMENT = " = throws.IllegalArgumentException";
  static final String STATE = " = throws.IllegalStateException";
  static final String NONE = " = throws.NoSuchElementException";
  static final String UNSUPPORTED = " = throws.UnsupportedOperationException";
  private static final int CALLS = 512;
  /** What leaves no weights, ways or order as at first, and keeps twelve calls. */
  private static final String[] USED = {
    "weigh 0 2 5", "weigh 9 1 3", "weigh 5 0 1", "edge 0 0 1", "edge 9 1 6", "edge 4 0 6", "swap 0",
    "swap 8", "repeat 12 add 3 9"
  };

  private final Document document = new Document();
  private final Set<String> severals = new TreeSet<>();
  private String section = "";
  private String[] setting = {};

  Edges() throws IOException {}

  /** The section of the sentences that are tested next, and the lines that go ahead of each. */
  void about(String newSection, String... newSetting) {
    section = newSection;
    setting = newSetting;
  }

  /** Tests a sentence by lines, each a text, or a row or a list of texts. */
  void test(String sentence, Object... lines) {
    document.test(section, sentence);
    run(section + ", " + sentence, flat(lines));
  }

  /** Of exceptions that all apply to the last of some lines the one that is documented first. */
  void first(String call, Object... lines) {
    List<String> told = new ArrayList<>(new LinkedHashSet<>(document.exceptionsOf(call)));
    Check.same("exceptions of " + call + " that have another one ahead", told.size() > 1, true);
    severals.add(call);
    run("of several exceptions of " + call, flat(lines));
  }

  /** Whether each call with several exceptions has been asked for the first one of them. */
  void end() {
    for (String call : document.sections()) {
      int unlike = new LinkedHashSet<>(document.exceptionsOf(call)).size();
      Check.same("several exceptions of " + call, severals.contains(call), unlike > 1);
    }
    document.end();
  }

  private static List<String> flat(Object... lines) {
    List<String> all = new ArrayList<>();
    for (Object line : lines) {
      if (line instanceof String[] row) {
        all.addAll(List.of(row));
      } else if (line instanceof List<?> row) {
        row.forEach(one -> all.add((String) one));
      } else {
        all.add((String) line);
      }
    }
    return all;
  }

  /** Lines with the numbers just beyond either end in place of '@', and those farthest off. */
  static List<String> beyond(int least, int greatest, String due, String... lines) {
    List<String> all = new ArrayList<>();
    for (String line : lines) {
      for (String number : new String[] {"" + (least - 1), "" + (greatest + 1), "MIN", "MAX"}) {
        all.add(line.replace("@", number) + due);
      }
    }
    return all;
  }

  static List<String> noSlot(String... lines) {
    return beyond(0, 7, BOUNDS, lines);
  }

  static List<String> noFamily(String... lines) {
    return beyond(0, 5, BOUNDS, lines);
  }

  static List<String> noVariable(String... lines) {
    return beyond(0, 9, ARGUMENT, lines);
  }

  static List<String> noSet(String... lines) {
    return beyond(0, 1023, ARGUMENT, lines);
  }

  static List<String> noCorner(String... lines) {
    return beyond(0, 6, ARGUMENT, lines);
  }

  private void run(String what, List<String> lines) {
    List<String> all = new ArrayList<>(List.of(setting));
    all.addAll(lines);
    Script house = new Script(new Forkhouse());
    Script plain = new Script(new PlainHouse());
    for (int at = 0; at < all.size(); at++) {
      String call = callOf(all.get(at));
      String got = house.answer(call);
      String due = dueOf(all.get(at));
      String due2 = plain.answer(call);
      String place = what + ": " + call;
      Check.same(place, got, due == null ? due2 : due);
      Check.same(place + ", on the plain house", due2, due == null ? got : due);
      Check.same(place + ", the sum", house.answer("checksum"), plain.answer("checksum"));
      if (due != null && due.startsWith("throws.")) {
        changesNothing(place, all.subList(0, at), call);
        changesNothing(place + ", of a used house", all.subList(0, at), call, USED);
      }
    }
    Check.same(what + ", no more calls than are promised", house.calls() <= CALLS, true);
  }

  /** Compares a house that refused calls with one that was never asked for these. */
  private static void changesNothing(String what, List<String> ahead, String refused,
      String... used) {
    Script without = new Script(new Forkhouse());
    Script with = new Script(new Forkhouse());
    for (String line : used) {
      without.answer(line);
      with.answer(line);
    }
    // Of a house that is used already some calls are refused no more.
    for (String line : ahead) {
      if (!with.answer(callOf(line)).startsWith("throws.")) {
        without.answer(callOf(line));
      }
    }
    if (with.answer(refused).startsWith("throws.")) {
      Check.same(what + ", all that is there", allOf(with), allOf(without));
      Check.same(what + ", no more calls than are promised", with.calls() <= CALLS, true);
    }
  }

  /** All that a house holds, told by calls that leave it of no more use. */
  private static List<String> allOf(Script house) {
    List<String> all = new ArrayList<>();
    all.add(house.answer("checksum"));
    for (int kept = 0; kept < 13; kept++) {
      all.add(house.answer("undo") + " " + house.answer("checksum"));
    }
    for (char letter = 'a'; letter <= 'j'; letter++) {
      house.answer("formula 0 " + letter);
      house.answer("tellChance 0");
      all.add("the weight of " + letter + " " + house.answer("checksum"));
    }
    for (int from = 0; from < 7; from++) {
      for (int to = 0; to < from; to++) {
        String ways = house.answer("ways 0 " + from + " " + to);
        all.add("ways " + ways + " " + house.answer("checksum"));
      }
    }
    return all;
  }

  private static String callOf(String line) {
    int end = line.indexOf(" = ");
    return end < 0 ? line : line.substring(0, end);
  }

  private static String dueOf(String line) {
    int end = line.indexOf(" = ");
    return end < 0 ? null : line.substring(end + 3);
  }

  /** Notes that a sentence is tested by other means than lines. */
  void tests(String sentence) {
    document.test(section, sentence);
  }
}
