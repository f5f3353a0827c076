import java.util.ArrayList;
import java.util.List;

/** The edges that promises 6 to 20 name: functions. */
final class FunctionEdges {
  /** What is left if a to d are set is each function of e and f once. */
  private static final String ALL_PARTS = "0xFF00F0F0CCCCAAAA";
  /**
   * Eight functions with the most nodes that there can be: h, i and j choose one of eight bits, of
   * which seven are told by a to g, and the last one and what g turns about by the slot.
   */
  static final String[] MOST_NODES = {
    "formula 1 !i&(!j&a|j&b)|i&(!j&c|j&d)", "formula 2 !i&(!j&e|j&f)|i&!j&g", "formula 3 h",
    "choose 0 3 2 1", "formula 3 h&i&j", "make 1 0 3 |", "formula 7 a^g", "put 2 0 0 7",
    "put 3 1 0 7", "formula 7 b^g", "put 4 0 1 7", "put 5 1 1 7", "formula 7 c^g", "put 6 0 2 7",
    "put 7 1 2 7"
  };

  private FunctionEdges() {}

  static void test(Edges edges) {
    table(edges);
    value(edges);
    make(edges);
    choose(edges);
    fix(edges);
    put(edges);
    some(edges);
    each(edges);
    nodes(edges);
    allNodes(edges);
    hangs(edges);
    isSame(edges);
    isUnder(edges);
    isSymmetric(edges);
    sort(edges);
  }

  private static void table(Edges edges) {
    edges.about("table");
    edges.test("Lets a slot become a function of a to f: that which is true in the rows whose bits"
            + " of a to f are the number of a bit that is 1.",
        "table 0 2 = 6", "value 0 1 = true", "value 0 65 = true", "value 0 961 = true",
        "value 0 0 = false", "value 0 2 = false", "value 0 1023 = false", "models 0 = 16",
        "hangs 0 = 63", "undo = 0");
    edges.test("slot: the slot",
        "table 0 1 = 6", "table 7 -1 = 0", "models 0 = 16", "models 7 = 1024", "models 1 = 0",
        "models 6 = 0", Edges.noSlot("table @ 1"), "undo = 7", "undo = 0");
    edges.test("bits: the bits, the lowest one for the number 0",
        "table 0 0 = 0", "models 0 = 0", "table 0 -1 = 0", "models 0 = 1024", "table 0 1 = 6",
        "value 0 0 = true", "value 0 64 = true", "value 0 63 = false",
        "table 0 -9223372036854775808 = 6", "value 0 63 = true", "value 0 1023 = true",
        "value 0 0 = false", "value 0 62 = false", "table 0 9223372036854775807 = 6",
        "value 0 63 = false", "value 0 62 = true", "table 0 0x8000000000000001 = 11",
        "models 0 = 32");
    edges.test("Returns how many nodes it has then.",
        "table 0 0 = 0", "table 0 0xAAAAAAAAAAAAAAAA = 1", "table 0 " + ALL_PARTS + " = 29");
    edges.test("Throws IndexOutOfBoundsException if there is no such slot",
        Edges.noSlot("table @ 0", "table @ -1"));
  }

  private static void value(Edges edges) {
    edges.about("value", "formula 0 a&b&c&d&e&f&g&h&i&j|!(a|b|c|d|e|f|g|h|i|j)", "formula 7 j");
    edges.test("Tells whether a function is true in a row.",
        "value 7 512 = true", "value 7 511 = false", "value 0 512 = false");
    edges.test("slot: the slot",
        "value 0 0 = true", "value 7 0 = false", Edges.noSlot("value @ 0"));
    edges.test("row: the row",
        "value 0 0 = true", "value 0 1 = false", "value 0 1022 = false", "value 0 1023 = true",
        Edges.noSet("value 0 @"));
    edges.test("Returns true if so.",
        "value 1 0 = false", "value 1 1023 = false", "table 1 -1", "value 1 0 = true",
        "value 1 1023 = true");
    edges.test("Throws IndexOutOfBoundsException if there is no such slot",
        Edges.noSlot("value @ 0", "value @ 1023"));
    edges.test("Throws IllegalArgumentException if there is no such row",
        Edges.noSet("value 0 @", "value 7 @"));
    edges.first("value", Edges.noSlot("value @ -1", "value @ 1024"));
  }

  private static void make(Edges edges) {
    edges.about("make", "formula 0 a&b", "formula 1 b", "formula 7 j");
    edges.test("Lets a slot become what is made of two functions.",
        "make 2 0 7 & = 3", "models 2 = 128", "make 0 0 0 ^ = 0", "models 0 = 0", "undo = 0",
        "undo = 2", "undo = 7");
    edges.test("slot: the slot",
        "make 0 1 7 & = 2", "hangs 0 = 514", "make 7 1 1 & = 1", "hangs 7 = 2",
        Edges.noSlot("make @ 0 1 &"));
    edges.test("a: the one",
        "make 2 0 1 - = 0", "make 2 7 1 - = 2", "models 2 = 256", Edges.noSlot("make 0 @ 1 &"));
    edges.test("b: the other one",
        "make 2 1 0 - = 2", "models 2 = 256", "make 2 1 7 - = 2", Edges.noSlot("make 0 1 @ &"));
    edges.test("how: '&' both, '|' one or both, '^' just one, '-' the one and not the other one, '>'"
            + " the other one or not the one",
        "make 2 1 7 & = 2", "models 2 = 256", "make 2 1 7 | = 2", "models 2 = 768",
        "make 2 1 7 ^ = 3", "models 2 = 512", "make 2 1 7 - = 2", "value 2 2 = true",
        "value 2 512 = false", "make 2 1 7 > = 2", "value 2 0 = true", "value 2 2 = false",
        "value 2 512 = true", "value 2 514 = true", noWays("make 2 1 7 "));
    edges.test("Returns how many nodes it has then.",
        "make 2 0 0 ^ = 0", "make 2 0 0 > = 0", "make 2 0 0 & = 2", "make 2 6 0 - = 0",
        MOST_NODES, "make 0 0 0 & = 261");
    edges.test("Throws IndexOutOfBoundsException if there is no such slot, for any",
        Edges.noSlot("make @ 0 1 &", "make 0 @ 1 &", "make 0 1 @ &", "make @ @ @ &"));
    edges.test("Throws IllegalArgumentException if there is no such way",
        noWays("make 0 0 1 "), "make 0 0 1 *" + Edges.ARGUMENT, "make 0 0 1 #0" + Edges.ARGUMENT,
        "make 0 0 1 #32" + Edges.ARGUMENT, "make 0 0 1 #65535" + Edges.ARGUMENT,
        "make 0 0 1 #294" + Edges.ARGUMENT);
    edges.first("make", Edges.noSlot("make @ 0 1 ?", "make 0 @ 1 ?", "make 0 1 @ ?"));
  }

  /** The signs next to those that tell a way. */
  private static List<String> noWays(String call) {
    List<String> lines = new ArrayList<>();
    for (String sign : List.of("%", "'", "{", "}", "]", "_", ",", ".", "#61", "?")) {
      lines.add(call + sign + Edges.ARGUMENT);
    }
    return lines;
  }

  private static void choose(Edges edges) {
    edges.about("choose", "formula 0 a", "formula 1 b&c", "formula 7 j");
    edges.test("Lets a slot become the function that is one where a third one is true, and else"
            + " another one.",
        "choose 2 0 1 7 = 4", "value 2 7 = true", "value 2 1 = false", "value 2 512 = true",
        "value 2 513 = false", "choose 0 0 0 0 = 1", "models 0 = 512", "undo = 0", "undo = 2");
    edges.test("slot: the slot",
        "choose 0 7 1 0 = 7", "choose 7 1 1 1 = 2", Edges.noSlot("choose @ 0 1 7"));
    edges.test("c: the third one",
        "choose 2 0 1 6 = 3", "choose 2 7 1 6 = 3", "choose 2 6 1 7 = 1",
        Edges.noSlot("choose 0 @ 1 7"));
    edges.test("a: the one",
        "choose 2 1 0 6 = 3", "choose 2 1 7 6 = 3", Edges.noSlot("choose 0 1 @ 7"));
    edges.test("b: the other one",
        "choose 2 1 6 0 = 3", "choose 2 1 6 7 = 3", Edges.noSlot("choose 0 1 7 @"));
    edges.test("Returns how many nodes it has then.",
        "choose 2 0 6 6 = 0", "table 5 -1", "choose 2 6 0 5 = 0", "models 2 = 1024",
        MOST_NODES, "choose 3 7 0 0 = 261");
    edges.test("Throws IndexOutOfBoundsException if there is no such slot, for any",
        Edges.noSlot("choose @ 0 1 7", "choose 0 @ 1 7", "choose 0 1 @ 7", "choose 0 1 7 @",
            "choose @ @ @ @"));
  }

  private static void fix(Edges edges) {
    edges.about("fix", "formula 0 a&b|!a&j", "formula 7 j");
    edges.test("Lets a slot become a function in which a variable is set.",
        "fix 1 0 0 true = 1", "hangs 1 = 2", "fix 1 0 0 false = 1", "hangs 1 = 512", "undo = 1",
        "hangs 1 = 2", "undo = 1", "undo = 7");
    edges.test("slot: the slot",
        "fix 0 0 0 true = 1", "fix 7 0 0 true = 1", "hangs 7 = 2", Edges.noSlot("fix @ 0 0 true"));
    edges.test("a: the function",
        "fix 1 0 1 true = 2", "fix 1 7 1 true = 1", "hangs 1 = 512",
        Edges.noSlot("fix 0 @ 0 true"));
    edges.test("variable: 0 to 9",
        "fix 1 0 0 true = 1", "fix 1 0 9 true = 2", "models 1 = 768", "fix 1 0 9 false = 2",
        "models 1 = 256", "fix 1 0 8 true = 3", Edges.noVariable("fix 0 0 @ true"));
    edges.test("value: to what",
        "fix 1 7 9 true = 0", "models 1 = 1024", "fix 1 7 9 false = 0", "models 1 = 0");
    edges.test("Returns how many nodes it has then.",
        "fix 1 7 9 false = 0", "fix 1 7 0 false = 1", "fix 1 6 0 true = 0", MOST_NODES,
        "fix 1 0 7 false = 29", "fix 1 0 7 true = 15");
    edges.test("Throws IndexOutOfBoundsException if there is no such slot, for any",
        Edges.noSlot("fix @ 0 0 true", "fix 0 @ 9 false", "fix @ @ 0 true"));
    edges.test("Throws IllegalArgumentException if there is no such variable",
        Edges.noVariable("fix 0 0 @ true", "fix 7 7 @ false"), "fix 0 0 31 true" + Edges.ARGUMENT,
        "fix 0 0 32 true" + Edges.ARGUMENT);
    edges.first("fix", Edges.noSlot("fix @ 0 -1 true", "fix 0 @ 10 true"));
  }

  private static void put(Edges edges) {
    edges.about("put", "formula 0 a&j", "formula 1 b|c", "formula 7 j");
    edges.test("Lets a slot become a function in which another one stands in place of a variable.",
        "put 2 0 0 1 = 3", "models 2 = 384", "put 1 0 0 1 = 3", "undo = 1", "models 1 = 768",
        "undo = 2");
    edges.test("slot: the slot",
        "put 0 0 0 7 = 1", "put 7 1 1 0 = 2", "hangs 7 = 516", Edges.noSlot("put @ 0 0 1"));
    edges.test("a: the function",
        "put 2 0 9 1 = 3", "put 2 7 9 1 = 2", "hangs 2 = 6", Edges.noSlot("put 0 @ 0 1"));
    edges.test("variable: 0 to 9",
        "put 2 0 0 1 = 3", "hangs 2 = 518", "put 2 0 9 1 = 3", "hangs 2 = 7", "put 2 0 8 1 = 2",
        Edges.noVariable("put 0 0 @ 1"));
    edges.test("b: the other one",
        "put 2 1 1 0 = 4", "put 2 1 1 7 = 2", "hangs 2 = 516", "put 2 0 9 0 = 2",
        Edges.noSlot("put 0 1 0 @"));
    edges.test("Returns how many nodes it has then.",
        "put 2 0 0 6 = 0", "put 2 7 9 6 = 0", "put 2 7 9 7 = 1", MOST_NODES,
        "make 6 6 6 ^ = 0", "put 3 0 7 6 = 29");
    edges.test("Throws IndexOutOfBoundsException if there is no such slot, for any",
        Edges.noSlot("put @ 0 0 1", "put 0 @ 9 1", "put 0 0 0 @", "put @ @ 0 @"));
    edges.test("Throws IllegalArgumentException if there is no such variable",
        Edges.noVariable("put 0 0 @ 1", "put 7 7 @ 7"), "put 0 0 32 1" + Edges.ARGUMENT);
    edges.first("put", Edges.noSlot("put @ 0 -1 1", "put 0 @ 10 1", "put 0 0 10 @"));
  }

  private static void some(Edges edges) {
    edges.about("some", "formula 0 a&j", "formula 7 b&i");
    edges.test("Lets a slot become the function that is true where some way to set told variables"
            + " makes one true.",
        "some 1 0 1 = 1", "hangs 1 = 512", "undo = 1", "undo = 7");
    edges.test("slot: the slot",
        "some 0 7 2 = 1", "some 7 0 0 = 1", "hangs 7 = 256", Edges.noSlot("some @ 0 1"));
    edges.test("a: the one",
        "some 1 0 2 = 2", "some 1 7 2 = 1", "hangs 1 = 256", Edges.noSlot("some 0 @ 1"));
    edges.test("set: the variables",
        "some 1 0 0 = 2", "isSame 0 1 = true", "some 1 0 1 = 1", "hangs 1 = 512",
        "some 1 0 512 = 1", "hangs 1 = 1", "some 1 0 1023 = 0", "models 1 = 1024",
        "some 1 6 1023 = 0", "models 1 = 0", Edges.noSet("some 0 0 @"));
    edges.test("Returns how many nodes it has then.",
        "some 1 6 0 = 0", "some 1 0 0 = 2", MOST_NODES, "some 3 0 0 = 261", "some 3 0 896 = 7");
    edges.test("Throws IndexOutOfBoundsException if there is no such slot, for any",
        Edges.noSlot("some @ 0 1", "some 0 @ 1", "some @ @ 1023"));
    edges.test("Throws IllegalArgumentException if a number is out of range",
        Edges.noSet("some 0 0 @", "some 7 7 @"), "some 0 0 2047" + Edges.ARGUMENT);
    edges.first("some", Edges.noSlot("some @ 0 -1", "some 0 @ 1024"));
  }

  private static void each(Edges edges) {
    edges.about("each", "formula 0 a|j", "formula 7 b|i");
    edges.test("Lets a slot become the function that is true where each way to set told variables"
            + " makes one true.",
        "each 1 0 1 = 1", "hangs 1 = 512", "undo = 1", "undo = 7");
    edges.test("slot: the slot",
        "each 0 7 2 = 1", "each 7 0 0 = 1", "hangs 7 = 256", Edges.noSlot("each @ 0 1"));
    edges.test("a: the one",
        "each 1 0 2 = 2", "each 1 7 2 = 1", "hangs 1 = 256", Edges.noSlot("each 0 @ 1"));
    edges.test("set: the variables",
        "each 1 0 0 = 2", "isSame 0 1 = true", "each 1 0 1 = 1", "hangs 1 = 512",
        "each 1 0 512 = 1", "hangs 1 = 1", "each 1 0 1023 = 0", "models 1 = 0", "table 2 -1",
        "each 1 2 1023 = 0", "models 1 = 1024", Edges.noSet("each 0 0 @"));
    edges.test("Returns how many nodes it has then.",
        "each 1 6 0 = 0", "each 1 0 0 = 2", MOST_NODES, "each 3 1 0 = 261", "each 3 1 896 = 7");
    edges.test("Throws IndexOutOfBoundsException if there is no such slot, for any",
        Edges.noSlot("each @ 0 1", "each 0 @ 1", "each @ @ 1023"));
    edges.test("Throws IllegalArgumentException if a number is out of range",
        Edges.noSet("each 0 0 @", "each 7 7 @"), "each 0 0 2047" + Edges.ARGUMENT);
    edges.first("each", Edges.noSlot("each @ 0 -1", "each 0 @ 1024"));
  }

  private static void nodes(Edges edges) {
    edges.about("nodes");
    edges.test("Returns how many nodes a function has.",
        "formula 0 a&b|c&d = 4", "nodes 0 = 4", "swap 1", "nodes 0 = 6");
    edges.test("slot: the slot",
        "formula 0 a&b", "formula 7 j", "nodes 0 = 2", "nodes 7 = 1", "nodes 1 = 0",
        Edges.noSlot("nodes @"));
    edges.test("Returns how many.",
        "nodes 0 = 0", "table 0 -1", "nodes 0 = 0", "formula 0 j", "nodes 0 = 1",
        MOST_NODES, "nodes 0 = 261", "nodes 1 = 261");
    edges.test("Throws IndexOutOfBoundsException if there is no such slot",
        Edges.noSlot("nodes @"));
  }

  private static void allNodes(Edges edges) {
    edges.about("allNodes");
    edges.test("Returns how many nodes all slots of functions have.",
        "formula 0 a&b", "formula 7 b", "formula 3 a", "allNodes = 3", "undo", "allNodes = 2",
        "undo", "allNodes = 2", "undo", "allNodes = 0");
    edges.test("Returns how many.",
        "allNodes = 0", "table 0 -1", "allNodes = 0", "formula 7 a", "allNodes = 1", MOST_NODES,
        "allNodes = 1270", "swap 0 = 1270", "isSound = true");
  }

  private static void hangs(Edges edges) {
    edges.about("hangs");
    edges.test("Returns on which variables a function hangs.",
        "formula 0 a&b|a&!b|j&!j", "hangs 0 = 1", "formula 0 i^j", "hangs 0 = 768");
    edges.test("slot: the slot",
        "formula 0 a", "formula 7 j", "hangs 0 = 1", "hangs 7 = 512", "hangs 6 = 0",
        Edges.noSlot("hangs @"));
    edges.test("Returns their set.",
        "hangs 0 = 0", "table 0 -1", "hangs 0 = 0", "formula 0 a^b^c^d^e^f^g^h^i^j",
        "hangs 0 = 1023", "sets 0 0", "ofFamily 0 0", "hangs 0 = 1023");
    edges.test("Throws IndexOutOfBoundsException if there is no such slot",
        Edges.noSlot("hangs @"));
  }

  private static void isSame(Edges edges) {
    edges.about("isSame", "sets 0 0 1023", "ofFamily 0 0", "sets 0 0", "ofFamily 6 0",
        "sets 0 1023", "ofFamily 7 0");
    edges.test("Tells whether two functions are the same.",
        "isSame 1 2 = true", "isSame 0 6 = false", "isSame 0 7 = false", "make 5 6 7 |",
        "isSame 5 0 = true");
    edges.test("a: the one",
        "isSame 0 1 = false", "isSame 7 1 = false", Edges.noSlot("isSame @ 0"));
    edges.test("b: the other one",
        "isSame 1 0 = false", "isSame 1 7 = false", Edges.noSlot("isSame 0 @"));
    edges.test("Returns true if so.", "isSame 0 0 = true", "isSame 7 7 = true",
        "isSame 6 7 = false");
    edges.test("Throws IndexOutOfBoundsException if there is no such slot, for any",
        Edges.noSlot("isSame @ 0", "isSame 7 @", "isSame @ @"));
  }

  private static void isUnder(Edges edges) {
    edges.about("isUnder", "sets 0 0 1023", "ofFamily 0 0", "sets 0 0", "ofFamily 6 0",
        "sets 0 1023", "ofFamily 7 0", "table 5 -1");
    edges.test("Tells whether a function is true wherever another one is.",
        "isUnder 6 0 = true", "isUnder 7 0 = true", "isUnder 0 6 = false", "isUnder 0 7 = false");
    edges.test("a: the other one",
        "isUnder 0 5 = true", "isUnder 7 5 = true", Edges.noSlot("isUnder @ 5"));
    edges.test("b: the function",
        "isUnder 5 0 = false", "isUnder 1 7 = true", Edges.noSlot("isUnder 1 @"));
    edges.test("Returns true if so.",
        "isUnder 0 0 = true", "isUnder 1 2 = true", "isUnder 1 5 = true", "isUnder 5 1 = false",
        "isUnder 5 5 = true", "isUnder 6 7 = false");
    edges.test("Throws IndexOutOfBoundsException if there is no such slot, for any",
        Edges.noSlot("isUnder @ 0", "isUnder 7 @", "isUnder @ @"));
  }

  private static void isSymmetric(Edges edges) {
    edges.about("isSymmetric", "formula 0 a&j|b", "formula 7 a");
    edges.test("Tells whether a function stays if two variables are changed about.",
        "isSymmetric 0 0 9 = true", "isSymmetric 0 0 1 = false", "isSymmetric 0 2 8 = true");
    edges.test("slot: the slot",
        "isSymmetric 0 0 9 = true", "isSymmetric 7 0 9 = false", Edges.noSlot("isSymmetric @ 0 9"));
    edges.test("u: 0 to 9",
        "isSymmetric 0 0 9 = true", "isSymmetric 0 9 0 = true", "isSymmetric 0 9 1 = false",
        Edges.noVariable("isSymmetric 0 @ 1"));
    edges.test("v: 0 to 9",
        "isSymmetric 0 1 0 = false", "isSymmetric 0 1 9 = false",
        Edges.noVariable("isSymmetric 0 1 @"));
    edges.test("Returns true if so, also for the same one.",
        "isSymmetric 0 0 0 = true", "isSymmetric 0 1 1 = true", "isSymmetric 0 9 9 = true",
        "isSymmetric 7 0 0 = true", "isSymmetric 1 0 9 = true");
    edges.test("Throws IndexOutOfBoundsException if there is no such slot",
        Edges.noSlot("isSymmetric @ 0 9", "isSymmetric @ 0 0"));
    edges.test("Throws IllegalArgumentException if there is no such variable, for either",
        Edges.noVariable("isSymmetric 0 @ 9", "isSymmetric 0 0 @", "isSymmetric 0 @ @"));
    edges.first("isSymmetric", Edges.noSlot("isSymmetric @ -1 0", "isSymmetric @ 0 10"));
  }

  private static void sort(Edges edges) {
    edges.about("sort", "formula 0 a&!b|a&c|i^h|!j", "formula 7 j");
    edges.test("Tells how a function hangs on a variable.",
        "sort 0 0 = +", "sort 0 1 = -", "sort 0 2 = +", "sort 0 3 = 0", "sort 0 7 = *",
        "sort 0 9 = -");
    edges.test("slot: the slot", "sort 0 9 = -", "sort 7 9 = +", Edges.noSlot("sort @ 0"));
    edges.test("variable: 0 to 9",
        "sort 0 0 = +", "sort 7 0 = 0", "sort 7 9 = +", Edges.noVariable("sort 0 @"));
    edges.test("Returns '0' not at all, '+' it never becomes false as the variable becomes 1, '-'"
            + " it never becomes true, '*' otherwise.",
        "sort 1 0 = 0", "table 1 -1", "sort 1 9 = 0", "sets 0 1023", "ofFamily 1 0", "sort 1 0 = +",
        "sort 1 9 = +", "sets 0 0", "ofFamily 1 0", "sort 1 0 = -", "sort 1 9 = -", "sets 0 0 1023",
        "ofFamily 1 0", "sort 1 0 = *", "sort 1 9 = *", "sets 0 1", "ofFamily 1 0",
        "sort 1 0 = +", "sort 1 1 = -", "sort 1 9 = -", "sets 0 512", "ofFamily 1 0",
        "sort 1 0 = -", "sort 1 8 = -", "sort 1 9 = +");
    edges.test("Throws IndexOutOfBoundsException if there is no such slot",
        Edges.noSlot("sort @ 9"));
    edges.test("Throws IllegalArgumentException if there is no such variable",
        Edges.noVariable("sort 0 @", "sort 7 @"));
    edges.first("sort", Edges.noSlot("sort @ -1", "sort @ 10"));
  }
}
