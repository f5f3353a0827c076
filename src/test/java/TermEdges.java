import java.util.ArrayList;
import java.util.List;

/** The edges that "What it is" and "Terms" name, which promises use. */
final class TermEdges {
  private static final String RING = "!(a&b&c)&(a|b|c)";
  /** A house in which nothing is as at first: twelve calls are kept, and sixty signs typed. */
  private static final String[] FULL = {
    "weigh 0 1 3", "weigh 9 99 100", "weigh 5 0 1", "edge 0 0 1", "edge 9 1 6", "edge 4 0 6",
    "edge 5 1 0", "swap 0", "swap 8", "swap 4", "formula 0 a&b|!a&c", "formula 1 a|b|c|d|e|f|g",
    "moves 2 0-1 1-2", "states 3 0", "states 4 2", "formula 5 a&f", "sets 0 3 6 0", "sets 1 5",
    "text " + "z".repeat(60)
  };

  private TermEdges() {}

  static void test(Edges edges) {
    house(edges);
    theorem(edges);
    functions(edges);
    nodes(edges);
    formulas(edges);
    faults(edges);
    signs(edges);
    cubes(edges);
    weights(edges);
    machines(edges);
    families(edges);
    text(edges);
    keeping(edges);
    refused(edges);
  }

  private static void house(Edges edges) {
    edges.about("What it is");
    edges.test("A house of decision diagrams..",
        "formula 0 a&b|!a&c", "allNodes = 3", "models 0 = 512", "cover 0 = 2", "tellChance 0",
        "told = 1/2", "steps 0 0 0", "add 0 1 = 1", "isSound = true");
    edges.test("An object is used for at most 512 calls after it has been made; what later calls"
            + " answer is free.",
        // With the sum that is looked at behind each line these are 512 calls.
        "repeat 430 table 0 5", "repeat 60 type a = 60", "erase = 60", "formula 0 a&b = 2",
        "undo = 0", "undo = 0", "models 0 = 32", "allNodes = 5", "nodes 0 = 5", "isSound = true");
  }

  private static void theorem(Edges edges) {
    edges.about("Terms");
    edges.test("Under each order two functions have the same diagram if and only if they are the"
            + " same, and no diagram by that order has fewer nodes.",
        "formula 0 a&c|b&d", "formula 1 !((!a|!c)&(!b|!d))", "isSame 0 1 = true",
        "allNodes = 6", "formula 2 a&c|b&!d", "isSame 0 2 = false", "nodes 2 = 6", "allNodes = 11",
        "undo", "swap 1", "nodes 0 = 4", "nodes 1 = 4", "allNodes = 4");
    edges.test("No change of the order changes a function, and changing two neighbours about and"
            + " back is nothing.",
        FunctionEdges.MOST_NODES, "mark", aboutAndBack(), "repeat 2 swap 0", "marked = true",
        "formula 7 a&j", "swap 0", "swap 4", "swap 8", "sift", "models 7 = 256",
        "value 7 513 = true",
        "value 7 1 = false", "hangs 7 = 513");
    edges.test("The models are as many as told, the one with a number has this rank, and ranks are"
            + " one to one.",
        "formula 0 a&b&c&d&e&f&g|h&i&j&a&c&e&g", "swap 2", "swap 7", "models 0 = 15", ranks());
    edges.test("The prime cubes are all cubes under a function under which no greater one is..",
        "formula 0 " + RING, "primes 0 = 6", "cover 0 = 4", "leastCover 0 = 3", "formula 0 a|!a",
        "primes 0 = 1", "cover 0 = 1", "leastCover 0 = 1", "formula 0 a&!a", "primes 0 = 0",
        "cover 0 = 0", "leastCover 0 = 0");
    edges.test("What is reached is just what some steps reach, and the way that is told is a"
            + " shortest one.",
        "moves 0 0-1 1-2 2-3 0-3 4-5", "states 1 0", "states 2 3", "reach 3 0 1", "models 3 = 128",
        "value 3 3 = true", "value 3 4 = false", "steps 0 1 2 = 1", "stateAt 0 1 2 1 = 3");
    edges.test("The least hitting sets of the least hitting sets of a family are its least sets.",
        "sets 0 3 7 12 512", "hitting 1 0 = 4", "hitting 1 1 = 3", "list 1 = 3 12 512",
        "least 0 0 = 3", "list 0 = 3 12 512", "hitting 2 5 = 1", "hitting 2 2 = 0", "sets 3 0 5",
        "hitting 3 3 = 0", "hitting 3 3 = 1", "list 3 = 0");
    edges.test("The chance of a function and that of its contrary are 1 together.",
        "weigh 0 1 3", "weigh 9 2 7", "formula 0 a&j", "tellChance 0", "told = 2/21",
        "formula 0 !(a&j)", "tellChance 0", "told = 19/21", "formula 0 0", "tellChance 0",
        "told = 0/1", "formula 0 1", "tellChance 0", "told = 1/1");
  }

  private static List<String> aboutAndBack() {
    List<String> lines = new ArrayList<>();
    for (int place = 0; place < 9; place++) {
      lines.add("swap " + place);
      lines.add("marked = false");
      lines.add("swap " + place + (place > 6 ? "" : " = 1270"));
      lines.add("marked = true");
    }
    return lines;
  }

  /** By a, b, d, c, e, f, g, i, h, j: seven without b, d or f, then eight with all of a to g. */
  private static List<String> ranks() {
    List<String> lines = new ArrayList<>();
    int[] rows = {
      0x3D5, 0x3F5, 0x3DD, 0x3FD, 0x3D7, 0x3F7, 0x3DF, 0x7F, 0x27F, 0xFF, 0x2FF, 0x17F, 0x37F,
      0x1FF, 0x3FF
    };
    for (int number = 0; number < rows.length; number++) {
      lines.add("modelAt 0 " + number + " = " + rows[number]);
      lines.add("rank 0 " + rows[number] + " = " + number);
    }
    return lines;
  }

  private static void functions(Edges edges) {
    edges.about("Terms");
    List<String> letters = new ArrayList<>();
    for (int variable = 0; variable < 10; variable++) {
      letters.add("formula 0 " + (char) ('a' + variable));
      letters.add("hangs 0 = " + (1 << variable));
      letters.add("sort 0 " + variable + " = +");
      letters.add("placeOf " + variable + " = " + variable);
    }
    edges.test("There are the variables a to j, numbered from 0 to 9.",
        letters, "text k", "read 0 = -1", "text `", "read 0 = -1", "sort 0 -1" + Edges.ARGUMENT,
        "sort 0 10" + Edges.ARGUMENT);
    List<String> bits = new ArrayList<>();
    for (int variable = 0; variable < 10; variable++) {
      bits.add("formula 0 " + (char) ('a' + variable));
      bits.add("value 0 " + (1 << variable) + " = true");
      bits.add("value 0 " + (1023 ^ 1 << variable) + " = false");
      bits.add("value 0 1023 = true");
      bits.add("value 0 0 = false");
    }
    edges.test("A row is a number from 0 to 1023; its bit k tells the variable k.",
        bits, "value 0 -1" + Edges.ARGUMENT, "value 0 1024" + Edges.ARGUMENT);
    edges.test("A function tells for each row whether it is true there; a model is a row where it"
            + " is.",
        "sets 0 0 1023", "ofFamily 0 0", "value 0 0 = true", "value 0 1 = false",
        "value 0 1023 = true", "models 0 = 2", "modelAt 0 0 = 0", "modelAt 0 1 = 1023",
        "rank 0 1" + Edges.NONE);
    edges.test("Eight slots, numbered from 0, hold a function each, at first that which is nowhere"
            + " true.",
        "models 0 = 0", "models 1 = 0", "models 2 = 0", "models 3 = 0", "models 4 = 0",
        "models 5 = 0", "models 6 = 0", "models 7 = 0", "isSame 0 7 = true",
        Edges.noSlot("models @"), "table 7 -1", "models 7 = 1024", "models 6 = 0", "models 0 = 0");
    edges.test("A function hangs on a variable if it is not alike in two rows that differ in that"
            + " one alone.",
        "sets 0 0 1", "ofFamily 0 0", "hangs 0 = 1022", "sets 0 512 0", "ofFamily 0 0",
        "hangs 0 = 511", "sets 0 0", "ofFamily 0 0", "hangs 0 = 1023", "table 0 -1", "hangs 0 = 0");
    edges.test("A set of variables is told as a number, 0 to 1023, by its bits.",
        "formula 0 a^j", "hangs 0 = 513", "some 1 0 513 = 0", "some 1 0 510 = 3",
        "some 1 0 1023 = 0", "some 1 0 0 = 3", Edges.noSet("some 0 0 @"));
  }

  private static void nodes(Edges edges) {
    edges.about("Terms");
    edges.test("The order is a row of all variables, at first a to j; places in it are numbered"
            + " from 0.",
        "order = abcdefghij", "placeOf 0 = 0", "placeOf 9 = 9", "swap 8 = 0",
        "order = abcdefghji", "swap 9" + Edges.ARGUMENT, "swap -1" + Edges.ARGUMENT);
    edges.test("Parts of a function are the function itself..",
        "nodes 0 = 0", "table 0 -1", "nodes 0 = 0", "formula 0 a", "nodes 0 = 1", "formula 0 j",
        "nodes 0 = 1", "formula 0 a&b&c&d&e&f&g&h&i&j", "nodes 0 = 10",
        "formula 0 a^b^c^d^e^f^g^h^i^j", "nodes 0 = 19", "formula 0 a&b|!a&!b", "nodes 0 = 3");
    edges.test("The nodes of all slots are the unlike ones of all of their functions.",
        "allNodes = 0", "table 0 -1", "allNodes = 0", "formula 0 a&b", "formula 1 a&b",
        "formula 7 b", "allNodes = 2", "formula 6 !b", "allNodes = 3", FunctionEdges.MOST_NODES,
        "allNodes = 1270");
  }

  private static void formulas(Edges edges) {
    edges.about("Terms");
    String sentence = "A formula is a row of choices with '|' between them..";
    edges.test(sentence,
        "formula 0 a|b&c^d", "models 0 = 768", "value 0 1 = true", "value 0 6 = true",
        "value 0 8 = true", "value 0 14 = false", "value 0 15 = true", "formula 0 d^c&b|a",
        "models 0 = 768", "formula 0 a^b^c", "value 0 7 = true", "value 0 3 = false",
        "value 0 4 = true", "formula 0 a|b|c", "models 0 = 896", "formula 0 a&b&c",
        "models 0 = 128",
        "formula 0 (a|b)&c", "models 0 = 384", "formula 0 (a^b)&c", "models 0 = 256",
        "formula 0 a^b|c", "models 0 = 768", "formula 0 a^(b|c)", "models 0 = 512");
    edges.test(sentence,
        "formula 0 0", "models 0 = 0", "formula 0 1", "models 0 = 1024", "formula 0 !0",
        "models 0 = 1024", "formula 0 !1", "models 0 = 0", "formula 0 !!a", "value 0 1 = true",
        "formula 0 !!!a", "value 0 1 = false", "formula 0 !a&b", "value 0 2 = true",
        "value 0 0 = false", "formula 0 !(a&b)", "models 0 = 768", "formula 0 !a^b",
        "value 0 0 = true", "value 0 3 = true", "formula 0 a&!!b", "models 0 = 256",
        "formula 0 1^1^1", "models 0 = 1024", "formula 0 0|1&0^1", "models 0 = 1024");
    edges.test(sentence,
        "formula 0 " + "(".repeat(29) + "!a" + ")".repeat(29), "models 0 = 512",
        "value 0 0 = true", "formula 0 (((((a)))))&((b))", "models 0 = 256",
        "formula 0 " + "!".repeat(59) + "j", "value 0 0 = true", "value 0 512 = false");
    edges.test(sentence,
        "formula 0 " + "!(".repeat(19) + "a&" + "b" + ")".repeat(19), "models 0 = 768",
        "formula 0 " + "a&".repeat(29) + "b", "models 0 = 256", "formula 0 "
            + "a^".repeat(29) + "a", "models 0 = 0");
  }

  private static void faults(Edges edges) {
    edges.about("Terms", "formula 0 a&b", "mark");
    String sentence = "The fault is the place, from 0, of the first sign that cannot stand there;"
        + " the length of the text, if it ends where it cannot.";
    String[] early = {
      "", "a&", "a|", "a^", "!", "!!", "(", "(a", "((a)", "a&(b|!c", "(".repeat(60),
      "!".repeat(60), "(".repeat(30) + "a" + ")".repeat(29)
    };
    for (String signs : early) {
      edges.test(sentence, "text " + signs, "read 0 = " + (-1 - signs.length()), "told = ",
          "marked = true", "undo = 0", "undo" + Edges.NONE);
    }
    String[][] wrong = {
      {"0", ")", "&a", "|", "^a", "k", " a", "A", "2", "/"},
      {"1", "ab", "a b", "a!", "a(b)", "a)", "()", "(&a)", "!&", "!)", "01", "a0", "1/2", "a-b"},
      {"2", "a&)", "a&&b", "a||b", "a^|b", "!a!b", "!a b", "(a,b)", "a| b"},
      {"3", "(a))", "(a)(b)", "(a)b", "(a)!b", "a&b)", "(a&)", "a|b c"},
      {"59", "(".repeat(29) + "a" + ")".repeat(30), "!".repeat(59) + ")", "a&".repeat(29) + "aa"}
    };
    for (String[] row : wrong) {
      for (int at = 1; at < row.length; at++) {
        edges.test(sentence, "text " + row[at], "read 0 = " + (-1 - Integer.parseInt(row[0])),
            "told = ", "marked = true", "undo = 0", "undo" + Edges.NONE);
      }
    }
  }

  /** Each sign, as the first one and behind a letter: just those told can stand there. */
  private static void signs(Edges edges) {
    edges.about("Terms");
    String sentence = "The fault is the place, from 0, of the first sign that cannot stand there;"
        + " the length of the text, if it ends where it cannot.";
    for (int first = 32; first <= 126; first += 32) {
      List<String> alone = new ArrayList<>();
      List<String> behind = new ArrayList<>();
      for (int code = first; code < first + 32 && code <= 126; code++) {
        char sign = (char) code;
        alone.add("text " + sign);
        behind.add("text a" + sign);
        int nodes = sign >= 'a' && sign <= 'j' ? 1 : sign == '0' || sign == '1' ? 0 : -1;
        alone.add("read 0 = " + (sign == '!' || sign == '(' ? -2 : nodes));
        behind.add("read 0 = " + (sign == '&' || sign == '^' || sign == '|' ? -3 : -2));
      }
      edges.test(sentence, alone);
      edges.test(sentence, behind);
    }
  }

  private static void cubes(Edges edges) {
    edges.about("Terms");
    edges.test("A cube tells of some variables, perhaps none, that they are 1, or that they are 0;"
            + " it is true in the rows that are so.",
        "formula 0 1", "tellPrime 0 0", "told = 1", "formula 0 a&!j", "primes 0 = 1",
        "tellPrime 0 0", "told = a!j");
    edges.test("It is under a function if this is true wherever it is.",
        "formula 0 a", "formula 1 a&b", "isUnder 1 0 = true", "primes 0 = 1", "tellPrime 0 0",
        "told = a", "primes 1 = 1", "tellPrime 1 0", "told = ab");
    edges.test("A prime cube of a function is under it, and under no greater cube that is: one that"
            + " tells of fewer variables, and the same of these.",
        "formula 0 a|a&b", "primes 0 = 1", "formula 0 a&b|a&!b", "primes 0 = 1", "tellPrime 0 0",
        "told = a", "formula 0 a&b|!a&c", "primes 0 = 3", "formula 0 a^b", "primes 0 = 2",
        "formula 0 a|!a", "primes 0 = 1");
    edges.test("A cube is told by its letters from a to j, '!' ahead of each that is 0, or '1', if"
            + " it tells of none.",
        "formula 0 j&!h&f&!d&b&!a", "tellPrime 0 0 = 9", "told = !ab!df!hj", "sift",
        "tellPrime 0 0 = 9", "told = !ab!df!hj", "table 0 -1", "tellPrime 0 0 = 1", "told = 1",
        "formula 0 !a&!b&!c&!d&!e&!f", "tellPrime 0 0 = 12", "told = !a!b!c!d!e!f");
    edges.test("Cubes are in order by the first variable, from a on, of which they do not tell"
            + " alike: a variable that is not told ahead of one that is 0, that ahead of one that is"
            + " 1.",
        "formula 0 " + RING, "tellPrime 0 0", "told = !bc", "tellPrime 0 1", "told = b!c",
        "tellPrime 0 2", "told = !ac", "tellPrime 0 3", "told = !ab", "tellPrime 0 4", "told = a!c",
        "tellPrime 0 5", "told = a!b", "sift", "tellPrime 0 0", "told = !bc", "formula 0 a&j|!a&i",
        "tellPrime 0 0", "told = ij", "tellPrime 0 1", "told = !ai", "tellPrime 0 2", "told = aj");
    edges.test("A cover of a function is what is left of its prime cubes, as each, in order, is left"
            + " out if the others that are left cover the function, which is so if each of its"
            + " models is in one of them.",
        "formula 0 " + RING, "cover 0 = 4", "tellCover 0 0", "told = !ac", "tellCover 0 1",
        "told = !ab", "tellCover 0 2", "told = a!c", "tellCover 0 3", "told = a!b",
        "formula 0 a&b|!a&c", "cover 0 = 2", "tellCover 0 0", "told = !ac", "formula 0 0",
        "cover 0 = 0", "formula 0 1", "cover 0 = 1");
  }

  private static void weights(Edges edges) {
    edges.about("Terms");
    List<String> halves = new ArrayList<>();
    for (int variable = 0; variable < 10; variable++) {
      halves.add("formula 0 " + (char) ('a' + variable));
      halves.add("tellChance 0 = 3");
      halves.add("told = 1/2");
      halves.add("weigh " + variable + " 1 2 = 0");
    }
    edges.test("Each variable has a weight, a fraction from 0 to 1, at first 1/2, its chance to be"
            + " 1; all are independent.",
        halves, "weigh 0 0 100 = 1", "formula 0 a", "tellChance 0", "told = 0/1",
        "weigh 0 100 100 = 1",
        "tellChance 0", "told = 1/1", "weigh 0 1 3", "weigh 1 1 5", "formula 0 a&b",
        "tellChance 0", "told = 1/15");
    edges.test("The chance of a row is the product of the weights of the variables that are 1, and"
            + " of what is left to 1 for the others; that of a function the sum of the chances of"
            + " its models.",
        "sets 0 0", "ofFamily 0 0", "tellChance 0", "told = 1/1024", "sets 0 0 1023",
        "ofFamily 0 0", "tellChance 0", "told = 1/512", "weigh 0 1 3", "tellChance 0",
        "told = 1/512", "weigh 9 1 3", "tellChance 0", "told = 5/2304", "weigh 0 0 1",
        "tellChance 0", "told = 1/384", "weigh 9 1 1", "tellChance 0", "told = 0/1");
  }

  private static void machines(Edges edges) {
    edges.about("Terms");
    edges.test("The variables a to e tell a state, 0 to 31, by their bits; f to j, in this order,"
            + " the next one.",
        "formula 0 a&!b&!c&!d&!e&!f&!g&!h&!i&j", "states 1 1", "states 2 16", "steps 0 1 2 = 1",
        "formula 0 !a&!b&!c&!d&!e&f&g&h&i&j", "states 1 0", "states 2 31", "steps 0 1 2 = 1",
        "formula 0 !a&!b&!c&!d&e&f&!g&!h&!i&!j", "states 1 16", "states 2 1", "steps 0 1 2 = 1",
        "stateAt 0 1 2 0 = 16", "stateAt 0 1 2 1 = 1");
    edges.test("A function is a step from a state to another one if it is true in the row that both"
            + " make.",
        "sets 5 992", "ofFamily 0 5", "states 1 0", "states 2 31", "steps 0 1 2 = 1",
        "steps 0 2 1 = -1", "sets 5 31", "ofFamily 0 5", "steps 0 1 2 = -1", "steps 0 2 1 = 1",
        "table 0 -1", "steps 0 1 2 = 1", "make 0 0 0 ^", "steps 0 1 2 = -1");
    edges.test("A set of states is a function that hangs on a to e alone.",
        "formula 1 a&b&c&d&e", "image 2 0 1 = 0", "formula 1 0", "image 2 0 1 = 0", "formula 1 1",
        "image 2 0 1 = 0", "formula 1 f", "image 2 0 1" + Edges.UNSUPPORTED, "formula 1 j",
        "reach 2 0 1" + Edges.UNSUPPORTED, "steps 0 1 0" + Edges.UNSUPPORTED,
        "steps 0 0 1" + Edges.UNSUPPORTED);
  }

  private static void families(Edges edges) {
    edges.about("Terms");
    edges.test("Ten things are numbered from 0 to 9, a set of things is told as a number by its"
            + " bits; six slots, numbered from 0, hold a family each, which is a set of sets, at"
            + " first without any.",
        "list 0 = ", "list 1 = ", "list 2 = ", "list 3 = ", "list 4 = ", "list 5 = ", "edge 0 0 1",
        "edge 9 0 1", "ways 0 0 1 = 2", "list 0 = 1 512", "ways 5 0 1 = 2", "list 4 = ",
        Edges.noFamily("setAt @ 0", "add @ 0"), "add 5 1 = 2", "add 5 512 = 2");
    edges.test("Its parts are the family itself..",
        "familyNodes 0 = 0", "sets 0 0", "familyNodes 0 = 0", "sets 0 1", "familyNodes 0 = 1",
        "sets 0 512", "familyNodes 0 = 1", "sets 0 1 2 3", "familyNodes 0 = 3", "sets 0 0 1 2 3",
        "familyNodes 0 = 2", "sets 0 1 512", "familyNodes 0 = 2", "sets 0 5 6 9 10",
        "familyNodes 0 = 4", "swap 1", "familyNodes 0 = 6");
    edges.test("A hitting set of a family has a thing of each of its sets; a least one is a set of a"
            + " family of which no less one is in it.",
        "hitting 0 5 = 1", "list 0 = 0", "hitting 0 0 = 0", "sets 1 1023 512 0", "hitting 0 1 = 0",
        "least 0 1 = 1", "list 0 = 0", "sets 1 1 2 4", "hitting 0 1 = 1", "list 0 = 7",
        "least 0 1 = 3", "sets 1 3 3 7", "least 1 1 = 1", "list 1 = 3");
    edges.test("Each thing can be a way between two unlike ones of the corners 0 to 6, told by"
            + " edge().",
        "pairings 0 = 1", "edge 0 0 6 = 1", "ways 0 0 6 = 1", "ways 0 6 0 = 1", "edge 9 5 6 = 2",
        "ways 0 0 5 = 1", "list 0 = 513", "edge 9 6 6 = 1", "ways 0 0 5 = 0",
        Edges.noCorner("edge 0 @ 0", "edge 0 0 @"), "ways 0 0 6 = 1");
  }

  private static void text(Edges edges) {
    edges.about("Terms");
    edges.test("There is one text, empty at first, of at most 60 signs as it is typed.",
        "told = ", "erase = 0", "text " + "z".repeat(59), "type y = 60", "type x" + Edges.STATE,
        "signAt 59 = y", "erase = 60", "type x = 1");
    edges.test("Calls that put something there put it in place of what it was, and it can be"
            + " longer.",
        "formula 0 a&!b", "text x", "tellPrime 0 0 = 3", "told = a!b", "tellCover 0 0 = 3",
        "told = a!b", "tellChance 0 = 3", "told = 1/4", "type 0 = 4", "told = 1/40",
        "text " + "z".repeat(60), "tellPrime 0 0 = 3", "told = a!b", "repeat 57 type z = 60",
        "type z" + Edges.STATE, "tellChance 0 = 3", "type z = 4");
    edges.test("Reading takes it away, also at a fault.",
        "text a&b", "read 0 = 2", "told = ", "text a&", "read 0 = -3", "told = ", "read 0 = -1",
        "told = ", "tellChance 0 = 3", "read 0 = -2", "told = ", "text a", "read 8" + Edges.BOUNDS,
        "told = a");
  }

  private static void keeping(Edges edges) {
    String sentence = "Each call that lets a slot of functions or of families become something,"
        + " add() too, keeps what that held ahead of it, also if it becomes the same, at most twelve"
        + " of these, the oldest one being forgotten.";
    edges.about("Terms", "formula 0 a&b", "formula 1 b", "states 2 0", "moves 3 0-1", "sets 0 3 6",
        "edge 0 0 1");
    String[][] calls = {
      {"7", "formula 7 a|c"}, {"7", "table 7 9"}, {"7", "make 7 0 1 |"}, {"7", "choose 7 0 1 2"},
      {"7", "fix 7 0 0 true"}, {"7", "put 7 0 0 1"}, {"7", "some 7 0 1"}, {"7", "each 7 1 1"},
      {"7", "image 7 3 2"}, {"7", "reach 7 3 2"}, {"7", "ofFamily 7 0"}, {"104", "add 4 9"},
      {"104", "join 4 0 5 |"}, {"104", "least 4 0"}, {"104", "hitting 4 0"}, {"104", "ways 4 0 1"},
      {"104", "pairings 4"}, {"104", "ofFunction 4 0"}
    };
    for (String[] call : calls) {
      String undo = "undo = " + call[0];
      edges.test(sentence, "repeat 12 table 6 1", "mark", call[1], "marked = false", undo,
          "marked = true", "repeat 11 undo = 6", "undo" + Edges.NONE);
      edges.test(sentence, call[1], "mark", call[1], "marked = true", undo, "marked = true", undo,
          "marked = false");
    }
    edges.about("Terms");
    edges.test(sentence,
        "table 0 1", "repeat 11 add 0 5", "undo = 100", "add 0 6", "add 0 7",
        "repeat 12 undo = 100",
        "undo" + Edges.NONE, "models 0 = 16", "list 0 = ");
    edges.test("The order, weights and edges are not kept.",
        "swap 0", "weigh 0 1 3", "edge 0 0 1", "sift", "undo" + Edges.NONE, "table 0 2", "swap 0",
        "weigh 0 1 4", "edge 0 0 2", "undo = 0", "order = ijhgfedcba", "formula 0 a",
        "tellChance 0", "told = 1/4", "ways 0 0 2 = 1");
  }

  private static void refused(Edges edges) {
    edges.about("Terms", FULL);
    edges.test("A method that throws an exception changes nothing.",
        "mark", "type z" + Edges.STATE, "type #10" + Edges.ARGUMENT, "signAt 60" + Edges.BOUNDS,
        "read 8" + Edges.BOUNDS, "table 8 1" + Edges.BOUNDS, "value 0 1024" + Edges.ARGUMENT,
        "make 0 1 8 &" + Edges.BOUNDS, "make 0 1 2 +" + Edges.ARGUMENT,
        "choose 0 1 2 8" + Edges.BOUNDS, "fix 0 0 10 true" + Edges.ARGUMENT,
        "put 0 0 10 1" + Edges.ARGUMENT, "some 0 0 1024" + Edges.ARGUMENT,
        "each 0 0 1024" + Edges.ARGUMENT, "nodes 8" + Edges.BOUNDS, "hangs 8" + Edges.BOUNDS,
        "isSame 0 8" + Edges.BOUNDS, "isUnder 0 8" + Edges.BOUNDS,
        "isSymmetric 0 0 10" + Edges.ARGUMENT, "sort 0 10" + Edges.ARGUMENT, "marked = true");
    edges.test("A method that throws an exception changes nothing.",
        "mark", "models 8" + Edges.BOUNDS, "modelAt 0 512" + Edges.NONE, "rank 0 0" + Edges.NONE,
        "weigh 0 4 3" + Edges.ARGUMENT, "weigh 10 0 1" + Edges.ARGUMENT,
        "tellChance 8" + Edges.BOUNDS, "likeliest 7" + Edges.NONE, "placeOf 10" + Edges.ARGUMENT,
        "swap 9" + Edges.ARGUMENT, "fewest 1" + Edges.UNSUPPORTED, "primes 1" + Edges.UNSUPPORTED,
        "tellPrime 1 0" + Edges.UNSUPPORTED, "tellPrime 0 3" + Edges.NONE,
        "cover 1" + Edges.UNSUPPORTED, "tellCover 1 0" + Edges.UNSUPPORTED,
        "tellCover 0 2" + Edges.NONE, "leastCover 1" + Edges.UNSUPPORTED, "marked = true");
    edges.test("A method that throws an exception changes nothing.",
        "mark", "image 0 2 5" + Edges.UNSUPPORTED, "reach 0 2 5" + Edges.UNSUPPORTED,
        "steps 2 3 5" + Edges.UNSUPPORTED, "stateAt 2 3 5 0" + Edges.UNSUPPORTED,
        "stateAt 2 3 4 3" + Edges.NONE, "add 0 1024" + Edges.ARGUMENT, "add 6 0" + Edges.BOUNDS,
        "join 0 1 0 ^" + Edges.ARGUMENT, "least 0 6" + Edges.BOUNDS, "hitting 0 6" + Edges.BOUNDS,
        "setAt 0 3" + Edges.NONE, "familyNodes 6" + Edges.BOUNDS, "edge 10 0 1" + Edges.ARGUMENT,
        "edge 0 0 7" + Edges.ARGUMENT, "ways 0 0 7" + Edges.ARGUMENT, "pairings 6" + Edges.BOUNDS,
        "ofFamily 0 6" + Edges.BOUNDS, "ofFunction 0 8" + Edges.BOUNDS, "marked = true");
    edges.about("Terms");
    edges.test("If several exceptions apply, the one that is documented first is thrown.",
        "value 8 1024" + Edges.BOUNDS, "rank 0 1024" + Edges.ARGUMENT, "formula 0 a&b&c&d&e&f&g",
        "tellPrime 0 -1" + Edges.UNSUPPORTED, "add 6 1024" + Edges.BOUNDS,
        "text " + "z".repeat(60), "type #127" + Edges.ARGUMENT);
  }
}
