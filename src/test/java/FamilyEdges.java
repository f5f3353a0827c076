import java.util.ArrayList;
import java.util.List;

/** The edges that promises 40 to 50 name: families of sets. */
final class FamilyEdges {
  /** The family 0 has all sets, the family 1 the empty set alone, the family 5 none. */
  private static final String[] FULL = {"table 0 -1", "ofFunction 0 0", "sets 1 0"};
  /** Ways in a line by all corners, side by side at three of the steps, and one that is none. */
  private static final String[] LINE = {
    "edge 0 0 1", "edge 1 1 2", "edge 2 2 3", "edge 3 3 4", "edge 4 4 5", "edge 5 5 6",
    "edge 6 0 1", "edge 7 3 2", "edge 8 6 5", "edge 9 4 4"
  };
  /** Ten ways of which three have no corner in common. */
  private static final String[] BUNDLES = {
    "edge 0 0 1", "edge 1 0 1", "edge 2 1 0", "edge 3 2 3", "edge 4 2 3", "edge 5 3 2",
    "edge 6 4 6", "edge 7 4 6", "edge 8 6 4", "edge 9 6 4"
  };

  private FamilyEdges() {}

  static void test(Edges edges) {
    add(edges);
    join(edges);
    least(edges);
    hitting(edges);
    setAt(edges);
    familyNodes(edges);
    edge(edges);
    ways(edges);
    pairings(edges);
    ofFamily(edges);
    ofFunction(edges);
  }

  /** All sets of so many things. */
  private static String ofSize(int size) {
    StringBuilder sets = new StringBuilder();
    for (int set = 0; set < 1024; set++) {
      if (Integer.bitCount(set) == size) {
        sets.append(' ').append(set);
      }
    }
    return sets.toString();
  }

  private static void add(Edges edges) {
    edges.about("add");
    edges.test("Adds a set to a family.",
        "add 0 5 = 1", "list 0 = 5", "add 0 3 = 2", "list 0 = 3 5", "undo = 100", "list 0 = 5");
    edges.test("slot: the slot",
        "add 0 1 = 1", "add 5 2 = 1", "list 0 = 1", "list 5 = 2", Edges.noFamily("add @ 1"));
    edges.test("set: the set",
        "add 0 0 = 1", "add 0 1023 = 2", "add 0 512 = 3", "list 0 = 0 512 1023",
        Edges.noSet("add 0 @"), "list 0 = 0 512 1023");
    edges.test("Returns how many sets the family has then.",
        "add 0 0 = 1", "add 0 0 = 1", "formula 0 a|b|c|d|e|f|g|h|i|j", "ofFunction 0 0 = 1023",
        "add 0 1 = 1023", "add 0 0 = 1024", "add 0 0 = 1024", "add 0 1023 = 1024");
    edges.test("Throws IndexOutOfBoundsException if there is no such slot",
        Edges.noFamily("add @ 0", "add @ 1023"), "add 6 0" + Edges.BOUNDS,
        "add 7 0" + Edges.BOUNDS);
    edges.test("Throws IllegalArgumentException if a number is out of range",
        FULL, Edges.noSet("add 0 @", "add 5 @"));
    edges.first("add", Edges.noFamily("add @ -1", "add @ 1024"));
  }

  private static void join(Edges edges) {
    edges.about("join", "sets 0 1 2 3", "sets 1 2 4", "sets 5 8");
    edges.test("Lets a slot become what is made of two families.",
        "join 2 0 1 | = 4", "list 2 = 1 2 3 4", "join 0 0 0 - = 0", "undo = 100",
        "list 0 = 1 2 3", "undo = 102");
    edges.test("slot: the slot",
        "join 0 0 1 & = 1", "list 0 = 2", "join 5 0 1 | = 2", "list 5 = 2 4",
        Edges.noFamily("join @ 0 1 |"));
    edges.test("a: the one",
        "join 2 0 1 - = 2", "list 2 = 1 3", "join 2 5 1 - = 1", "list 2 = 8",
        Edges.noFamily("join 0 @ 1 |"));
    edges.test("b: the other one",
        "join 2 1 0 - = 1", "list 2 = 4", "join 2 1 5 - = 2", "list 2 = 2 4",
        Edges.noFamily("join 0 1 @ |"));
    edges.test("how: '|' the sets of either, '&' of both, '-' of the one but not of the other one,"
            + " '*' each set of all things of a set of the one and of a set of the other one",
        "join 2 0 1 | = 4", "list 2 = 1 2 3 4", "join 2 0 1 & = 1", "list 2 = 2",
        "join 2 0 1 - = 2", "list 2 = 1 3", "join 2 0 1 * = 5", "list 2 = 2 3 5 6 7",
        noWays("join 2 0 1 "));
    edges.test("Returns how many sets it has.",
        "join 2 0 0 - = 0", "join 2 3 3 * = 0", "join 2 0 3 * = 0", "join 2 3 0 * = 0",
        "sets 3 0 1", "join 2 3 1 * = 4", "list 2 = 2 3 4 5", "join 2 1 3 * = 4", "sets 3 0",
        "join 2 3 1 * = 2", "list 2 = 2 4", "join 2 1 3 * = 2", "list 2 = 2 4", FULL,
        "join 2 0 0 | = 1024", "join 2 0 0 * = 1024", "join 2 0 1 * = 1024", "join 2 1 1 * = 1",
        "join 2 0 0 & = 1024", "join 2 0 1 - = 1023", "join 2 0 0 - = 0");
    edges.test("Throws IndexOutOfBoundsException if there is no such slot, for any",
        Edges.noFamily("join @ 0 1 |", "join 0 @ 1 |", "join 0 1 @ |", "join @ @ @ *"));
    edges.test("Throws IllegalArgumentException if there is no such way",
        noWays("join 0 0 1 "), "join 0 0 1 ^" + Edges.ARGUMENT, "join 0 0 1 >" + Edges.ARGUMENT,
        "join 0 0 1 #0" + Edges.ARGUMENT, "join 0 0 1 #65535" + Edges.ARGUMENT,
        "join 0 0 1 #298" + Edges.ARGUMENT);
    edges.first("join", Edges.noFamily("join @ 0 1 ?", "join 0 @ 1 ?", "join 0 1 @ ?"));
  }

  /** The signs next to those that tell a way. */
  private static List<String> noWays(String call) {
    List<String> lines = new ArrayList<>();
    for (String sign : List.of("{", "}", "%", "'", ",", ".", ")", "+")) {
      lines.add(call + sign + Edges.ARGUMENT);
    }
    return lines;
  }

  private static void least(Edges edges) {
    edges.about("least", "sets 0 3 1 6 7 1023", "sets 5 512 513");
    edges.test("Lets a slot become the least sets of a family.",
        "least 2 0 = 2", "list 2 = 1 6", "least 0 0 = 2", "list 0 = 1 6", "undo = 100",
        "list 0 = 1 3 6 7 1023", "undo = 102");
    edges.test("slot: the slot",
        "least 5 0 = 2", "list 5 = 1 6", "least 0 5 = 2", Edges.noFamily("least @ 0"));
    edges.test("a: the family",
        "least 1 0 = 2", "least 1 5 = 1", "list 1 = 512", Edges.noFamily("least 0 @"));
    edges.test("Returns how many sets it has.",
        "least 1 2 = 0", FULL, "least 2 0 = 1", "list 2 = 0", "least 2 1 = 1", "list 2 = 0",
        "sets 0 1023", "least 0 0 = 1", "list 0 = 1023");
    edges.test("Throws IndexOutOfBoundsException if there is no such slot, for any",
        Edges.noFamily("least @ 0", "least 0 @", "least @ @"));
  }

  private static void hitting(Edges edges) {
    edges.about("hitting", "sets 0 3 6", "sets 5 512");
    edges.test("Lets a slot become the least hitting sets of a family.",
        "hitting 2 0 = 2", "list 2 = 2 5", "hitting 2 2 = 2", "list 2 = 3 6", "hitting 0 5 = 1",
        "list 0 = 512", "undo = 100", "list 0 = 3 6", "undo = 102", "undo = 102");
    edges.test("slot: the slot",
        "hitting 5 0 = 2", "list 5 = 2 5", "hitting 0 5 = 2", "list 0 = 3 6",
        Edges.noFamily("hitting @ 0"));
    edges.test("a: the family",
        "hitting 1 0 = 2", "hitting 1 5 = 1", "list 1 = 512", Edges.noFamily("hitting 0 @"));
    edges.test("Returns how many sets it has.",
        "hitting 1 2 = 1", "list 1 = 0", "hitting 1 1 = 0", "list 1 = ", FULL, "hitting 2 0 = 0",
        "sets 0 1023", "hitting 0 0 = 10", "list 0 = 1 2 4 8 16 32 64 128 256 512",
        "hitting 0 0 = 1", "list 0 = 1023");
    edges.test("Throws IndexOutOfBoundsException if there is no such slot, for any",
        Edges.noFamily("hitting @ 0", "hitting 0 @", "hitting @ @"));
    edges.about("hitting");
    // What has a thing of each five of ten is each six of them, and the other way about.
    edges.test("Returns how many sets it has.",
        "sets 0" + ofSize(5), "least 1 0 = 252", "hitting 1 0 = 210", "setAt 1 0 = 63",
        "setAt 1 209 = 1008", "hitting 2 1 = 252", "setAt 2 0 = 31", "setAt 2 251 = 992");
  }

  private static void setAt(Edges edges) {
    edges.about("setAt", "sets 0 1023 0 512", "sets 5 7");
    edges.test("Returns a set of a family, by rising numbers.",
        "setAt 0 0 = 0", "setAt 0 1 = 512", "setAt 0 2 = 1023", "sift", "setAt 0 1 = 512");
    edges.test("slot: the slot", "setAt 0 2 = 1023", "setAt 5 0 = 7", Edges.noFamily("setAt @ 0"));
    edges.test("index: from 0",
        "setAt 0 0 = 0", "setAt 0 2 = 1023", "setAt 0 -1" + Edges.NONE, "setAt 0 3" + Edges.NONE,
        "setAt 5 0 = 7", "setAt 5 1" + Edges.NONE);
    edges.test("Returns the set.",
        FULL, "setAt 0 0 = 0", "setAt 0 512 = 512", "setAt 0 1023 = 1023", "setAt 1 0 = 0",
        "setAt 0 1024" + Edges.NONE);
    edges.test("Throws IndexOutOfBoundsException if there is no such slot",
        Edges.noFamily("setAt @ 0"), "setAt 6 0" + Edges.BOUNDS, "setAt 7 0" + Edges.BOUNDS);
    edges.test("Throws NoSuchElementException if there is none",
        "setAt 1 0" + Edges.NONE, Edges.beyond(0, 2, Edges.NONE, "setAt 0 @"),
        Edges.beyond(0, 0, Edges.NONE, "setAt 5 @"));
    edges.first("setAt", Edges.noFamily("setAt @ -1", "setAt @ 0", "setAt @ 1024"));
  }

  private static void familyNodes(Edges edges) {
    edges.about("familyNodes");
    edges.test("Returns how many nodes a family has.",
        "sets 0 5 6 9 10", "familyNodes 0 = 4", "swap 1", "familyNodes 0 = 6");
    edges.test("slot: the slot",
        "sets 0 3", "sets 5 7", "familyNodes 0 = 2", "familyNodes 5 = 3",
        Edges.noFamily("familyNodes @"));
    edges.test("Returns how many.",
        "familyNodes 0 = 0", "sets 0 0", "familyNodes 0 = 0", "sets 0 512", "familyNodes 0 = 1",
        "sets 0 0 512", "familyNodes 0 = 1", "sets 0 1023", "familyNodes 0 = 10", FULL,
        "familyNodes 0 = 10", "familyNodes 1 = 0");
    edges.test("Throws IndexOutOfBoundsException if there is no such slot",
        Edges.noFamily("familyNodes @"), "familyNodes 6" + Edges.BOUNDS,
        "familyNodes 7" + Edges.BOUNDS);
  }

  private static void edge(Edges edges) {
    edges.about("edge");
    edges.test("Tells a thing as a way between two corners, in place of what it was.",
        "edge 3 0 1 = 1", "ways 0 0 1 = 1", "list 0 = 8", "edge 3 2 1 = 1", "ways 0 0 1 = 0",
        "ways 0 1 2 = 1", "undo = 100", "undo = 100", "undo = 100", "ways 0 2 1 = 1");
    edges.test("thing: 0 to 9",
        "edge 0 0 1 = 1", "edge 9 0 1 = 2", "ways 0 0 1 = 2", "list 0 = 1 512",
        Edges.noVariable("edge @ 0 1", "edge @ 0 0"));
    edges.test("from: 0 to 6",
        "edge 0 0 1 = 1", "edge 1 6 1 = 2", "ways 0 0 6 = 1", "list 0 = 3",
        Edges.noCorner("edge 0 @ 1"));
    edges.test("to: 0 to 6, or the same for none",
        "edge 0 1 0 = 1", "edge 1 1 6 = 2", "ways 0 6 0 = 1", "list 0 = 3",
        Edges.noCorner("edge 0 1 @", "edge 0 @ @"), "edge 0 1 1 = 1", "ways 0 6 0 = 0",
        "edge 1 0 0 = 0", "edge 1 6 6 = 0");
    edges.test("Returns how many things are ways then.",
        "edge 0 0 0 = 0", BUNDLES, "edge 9 0 6 = 10", "edge 9 6 6 = 9", "edge 9 0 0 = 9",
        "edge 0 3 3 = 8");
    edges.test("Throws IllegalArgumentException if a number is out of range",
        "edge 0 0 1 = 1", Edges.noVariable("edge @ 0 1", "edge @ 1 1"),
        Edges.noCorner("edge 0 @ 1", "edge 0 1 @", "edge 0 @ @"), "edge 10 7 7" + Edges.ARGUMENT,
        "edge 0 32 0" + Edges.ARGUMENT, "ways 0 0 1 = 1");
  }

  private static void ways(Edges edges) {
    edges.about("ways", LINE);
    edges.test("Lets a slot become the family of all ways from a corner to another one that come to"
            + " no corner twice, as sets of things.",
        "ways 0 2 4 = 2", "list 0 = 12 136", "edge 9 4 2 = 10", "ways 0 2 4 = 3",
        "list 0 = 12 136 512", "undo = 100", "list 0 = 12 136", "undo = 100", "list 0 = ");
    edges.test("slot: the slot",
        "ways 0 0 1 = 2", "ways 5 1 2 = 1", "list 0 = 1 64", "list 5 = 2",
        Edges.noFamily("ways @ 0 1"));
    edges.test("from: 0 to 6",
        "ways 0 0 1 = 2", "ways 0 6 1 = 4", "ways 0 3 3 = 1", Edges.noCorner("ways 0 @ 1"));
    edges.test("to: 0 to 6; from one to itself the empty set alone is such a way",
        "ways 0 1 0 = 2", "ways 0 1 6 = 4", "ways 0 0 0 = 1", "list 0 = 0", "ways 0 6 6 = 1",
        "list 0 = 0", "edge 0 4 4 = 8", "ways 0 4 4 = 1", "list 0 = 0",
        Edges.noCorner("ways 0 1 @"));
    edges.test("Returns how many sets it has.",
        "ways 0 0 6 = 8", "setAt 0 0 = 63", "setAt 0 7 = 474", "ways 0 6 0 = 8", "edge 2 0 0",
        "edge 7 0 0", "ways 0 0 6 = 0", BUNDLES, "ways 0 0 1 = 3", "ways 0 4 6 = 4",
        "ways 0 0 5 = 0", "ways 0 5 5 = 1");
    edges.test("Throws IndexOutOfBoundsException if there is no such slot",
        Edges.noFamily("ways @ 0 6", "ways @ 0 0"), "ways 6 0 1" + Edges.BOUNDS);
    edges.test("Throws IllegalArgumentException if a number is out of range",
        Edges.noCorner("ways 0 @ 1", "ways 0 1 @", "ways 0 @ @"), "ways 0 32 0" + Edges.ARGUMENT);
    edges.first("ways",
        Edges.noFamily("ways @ -1 0", "ways @ 0 7", "ways @ 7 7", "ways @ -1 -1"));
  }

  private static void pairings(Edges edges) {
    edges.about("pairings");
    edges.test("Lets a slot become the family of all sets of ways no two of which have a corner in"
            + " common.",
        "edge 0 0 1", "edge 1 1 2", "edge 9 2 3", "pairings 0 = 5", "list 0 = 0 1 2 512 513",
        "undo = 100", "list 0 = ");
    edges.test("slot: the slot",
        "edge 9 0 6", "pairings 0 = 2", "pairings 5 = 2", "list 5 = 0 512",
        Edges.noFamily("pairings @"));
    edges.test("Returns how many sets it has.",
        "pairings 0 = 1", "list 0 = 0", BUNDLES, "pairings 0 = 80", "setAt 0 79 = 548");
    edges.test("Throws IndexOutOfBoundsException if there is no such slot",
        "edge 9 0 6", Edges.noFamily("pairings @"), "pairings 6" + Edges.BOUNDS);
  }

  private static void ofFamily(Edges edges) {
    edges.about("ofFamily", "sets 0 0 1023", "sets 5 512");
    edges.test("Lets a slot of functions become the function whose models are the sets of a family.",
        "ofFamily 2 0", "models 2 = 2", "value 2 0 = true", "value 2 1023 = true",
        "value 2 1 = false", "undo = 2", "models 2 = 0", "list 0 = 0 1023");
    edges.test("slot: the slot of functions",
        "ofFamily 0 5 = 10", "ofFamily 7 5 = 10", "isSame 0 7 = true",
        Edges.noSlot("ofFamily @ 0"));
    edges.test("family: the slot of families",
        "ofFamily 1 0 = 19", "ofFamily 1 5 = 10", "value 1 512 = true",
        Edges.noFamily("ofFamily 0 @"));
    edges.test("Returns how many nodes it has then.",
        "ofFamily 1 1 = 0", "models 1 = 0", FULL, "ofFamily 1 0 = 0", "models 1 = 1024",
        "ofFamily 1 1 = 10", "models 1 = 1");
    edges.test("Throws IndexOutOfBoundsException if there is no such slot, for either",
        Edges.noSlot("ofFamily @ 0", "ofFamily @ 5"),
        Edges.noFamily("ofFamily 0 @", "ofFamily 7 @"),
        "ofFamily 0 6" + Edges.BOUNDS, "ofFamily 0 7" + Edges.BOUNDS,
        "ofFamily 8 6" + Edges.BOUNDS);
  }

  private static void ofFunction(Edges edges) {
    edges.about("ofFunction", "formula 0 a&b&c&d&e&f&g&h&i", "formula 7 !(a|b|c|d|e|f|g|h|i|j)");
    edges.test("Lets a slot of families become the family whose sets are the models of a function.",
        "ofFunction 0 0 = 2", "list 0 = 511 1023", "ofFunction 0 7 = 1", "list 0 = 0", "undo = 100",
        "list 0 = 511 1023", "undo = 100", "undo = 7");
    edges.test("family: the slot of families",
        "ofFunction 0 0 = 2", "ofFunction 5 7 = 1", "list 0 = 511 1023", "list 5 = 0",
        Edges.noFamily("ofFunction @ 0"));
    edges.test("slot: the slot of functions",
        "ofFunction 1 0 = 2", "ofFunction 1 7 = 1", "list 1 = 0", Edges.noSlot("ofFunction 0 @"));
    edges.test("Returns how many sets it has.",
        "ofFunction 0 1 = 0", "table 1 -1", "ofFunction 0 1 = 1024", "setAt 0 1023 = 1023");
    edges.test("Throws IndexOutOfBoundsException if there is no such slot, for either",
        Edges.noFamily("ofFunction @ 0", "ofFunction @ 7"),
        Edges.noSlot("ofFunction 0 @", "ofFunction 5 @"), "ofFunction 6 8" + Edges.BOUNDS,
        "ofFunction 7 0" + Edges.BOUNDS, "ofFunction 6 7" + Edges.BOUNDS);
  }
}
