import java.util.ArrayList;
import java.util.List;

/** The edges that promises 21 to 30 name: models, weights and the order. */
final class ModelEdges {
  /** Ten weights that have no divisor in common with 100, so that chances are as long as can be. */
  private static final String[] RARE = {
    "weigh 0 1 100", "weigh 1 1 100", "weigh 2 1 100", "weigh 3 1 100", "weigh 4 1 100",
    "weigh 5 1 100", "weigh 6 1 100", "weigh 7 1 100", "weigh 8 1 100", "weigh 9 1 100"
  };

  private ModelEdges() {}

  static void test(Edges edges) {
    models(edges);
    modelAt(edges);
    rank(edges);
    weigh(edges);
    tellChance(edges);
    likeliest(edges);
    placeOf(edges);
    swap(edges);
    sift(edges);
    fewest(edges);
  }

  private static void models(Edges edges) {
    edges.about("models");
    edges.test("Returns how many models a function has.",
        "formula 0 a|j", "models 0 = 768", "undo", "models 0 = 0");
    edges.test("slot: the slot",
        "formula 0 a", "formula 7 a&j", "models 0 = 512", "models 7 = 256",
        Edges.noSlot("models @"));
    edges.test("Returns how many.",
        "models 0 = 0", "table 0 -1", "models 0 = 1024", "sets 0 0", "ofFamily 0 0",
        "models 0 = 1", "sets 0 1023", "ofFamily 0 0", "models 0 = 1",
        "formula 0 a|b|c|d|e|f|g|h|i|j", "models 0 = 1023");
    edges.test("Throws IndexOutOfBoundsException if there is no such slot",
        Edges.noSlot("models @"));
  }

  private static void modelAt(Edges edges) {
    edges.about("modelAt");
    edges.test("Returns a model, in the order of the first variable, by the order, in which two"
            + " differ, 0 ahead of 1.",
        "sets 0 1 2 512 1023", "ofFamily 0 0", "modelAt 0 0 = 512", "modelAt 0 1 = 2",
        "modelAt 0 2 = 1", "modelAt 0 3 = 1023", "swap 0", "modelAt 0 0 = 512", "modelAt 0 1 = 1",
        "modelAt 0 2 = 2", "modelAt 0 3 = 1023");
    edges.test("slot: the slot",
        "formula 0 a", "formula 7 j", "modelAt 0 0 = 1", "modelAt 7 0 = 512",
        Edges.noSlot("modelAt @ 0"));
    edges.test("number: from 0",
        "table 0 -1", "modelAt 0 0 = 0", "modelAt 0 1 = 512", "modelAt 0 511 = 1022",
        "modelAt 0 512 = 1", "modelAt 0 1023 = 1023", "modelAt 0 -1" + Edges.NONE,
        "modelAt 0 1024" + Edges.NONE);
    edges.test("Returns the row.",
        "sets 0 0", "ofFamily 0 0", "modelAt 0 0 = 0", "modelAt 0 1" + Edges.NONE, "sets 0 1023",
        "ofFamily 0 0", "modelAt 0 0 = 1023", "modelAt 0 1" + Edges.NONE);
    edges.test("Throws IndexOutOfBoundsException if there is no such slot",
        "table 0 -1", "table 7 -1", Edges.noSlot("modelAt @ 0", "modelAt @ 1023"));
    edges.test("Throws NoSuchElementException if there is none",
        "modelAt 0 0" + Edges.NONE, "modelAt 7 0" + Edges.NONE, "formula 0 a&b",
        "modelAt 0 255 = 1023", Edges.beyond(0, 255, Edges.NONE, "modelAt 0 @"));
    edges.first("modelAt", Edges.noSlot("modelAt @ -1", "modelAt @ 0", "modelAt @ 1024"));
  }

  private static void rank(Edges edges) {
    edges.about("rank");
    edges.test("Returns how many models come ahead of one, in this order.",
        "sets 0 1 2 512 1023", "ofFamily 0 0", "rank 0 512 = 0", "rank 0 2 = 1", "rank 0 1 = 2",
        "rank 0 1023 = 3", "swap 0", "rank 0 1 = 1", "rank 0 2 = 2");
    edges.test("slot: the slot",
        "formula 0 a", "formula 7 j", "rank 0 1 = 0", "rank 7 513 = 256", Edges.noSlot("rank @ 1"));
    edges.test("row: the model",
        "table 0 -1", "rank 0 0 = 0", "rank 0 1 = 512", "rank 0 512 = 1", "rank 0 1023 = 1023",
        Edges.noSet("rank 0 @"));
    edges.test("Returns how many.",
        "sets 0 0 1023", "ofFamily 0 0", "rank 0 0 = 0", "rank 0 1023 = 1", "table 0 -1",
        "rank 0 1023 = 1023");
    edges.test("Throws IndexOutOfBoundsException if there is no such slot",
        "table 0 -1", "table 7 -1", Edges.noSlot("rank @ 0", "rank @ 1023"));
    edges.test("Throws IllegalArgumentException if there is no such row",
        "table 0 -1", Edges.noSet("rank 0 @"));
    edges.test("Throws NoSuchElementException if it is no model",
        "rank 0 0" + Edges.NONE, "rank 7 1023" + Edges.NONE, "formula 0 a", "rank 0 0" + Edges.NONE,
        "rank 0 1022" + Edges.NONE, "rank 0 1 = 0");
    edges.first("rank",
        Edges.noSlot("rank @ -1", "rank @ 1024", "rank @ 0"), Edges.noSet("rank 0 @"));
  }

  private static void weigh(Edges edges) {
    edges.about("weigh");
    edges.test("Sets the weight of a variable.",
        "formula 0 a", "formula 1 b", "weigh 0 1 3 = 1", "tellChance 0", "told = 1/3",
        "tellChance 1", "told = 1/2", "weigh 0 2 3 = 1", "tellChance 0", "told = 2/3");
    edges.test("variable: 0 to 9",
        "formula 0 a", "formula 7 j", "weigh 0 1 3 = 1", "weigh 9 1 4 = 2",
        "tellChance 0", "told = 1/3", "tellChance 7", "told = 1/4",
        Edges.noVariable("weigh @ 1 3"));
    edges.test("above: 0 to below",
        "formula 0 a", "weigh 0 0 5 = 1", "tellChance 0", "told = 0/1", "weigh 0 5 5 = 1",
        "tellChance 0", "told = 1/1", Edges.beyond(0, 5, Edges.ARGUMENT, "weigh 0 @ 5"),
        Edges.beyond(0, 100, Edges.ARGUMENT, "weigh 0 @ 100"),
        Edges.beyond(0, 1, Edges.ARGUMENT, "weigh 0 @ 1"), "weigh 0 0 1 = 1", "weigh 0 1 1 = 1",
        "weigh 0 100 100 = 1");
    edges.test("below: 1 to 100",
        "formula 0 a", "weigh 0 1 1 = 1", "tellChance 0", "told = 1/1", "weigh 0 1 100 = 1",
        "tellChance 0", "told = 1/100", "weigh 0 0 1 = 1", "tellChance 0", "told = 0/1",
        Edges.beyond(1, 100, Edges.ARGUMENT, "weigh 0 1 @", "weigh 0 0 @"));
    edges.test("Returns how many variables have another weight than 1/2.",
        "weigh 0 1 2 = 0", "weigh 9 50 100 = 0", "weigh 5 2 4 = 0", RARE, "weigh 9 1 99 = 10",
        "weigh 0 49 98 = 9", "weigh 0 49 99 = 10", "weigh 0 50 99 = 10");
    edges.test("Throws IllegalArgumentException if a number is out of range",
        "weigh 0 1 3 = 1", Edges.noVariable("weigh @ 1 3", "weigh @ 0 1"),
        Edges.beyond(0, 3, Edges.ARGUMENT, "weigh 0 @ 3"),
        Edges.beyond(1, 100, Edges.ARGUMENT, "weigh 0 1 @", "weigh 0 @ @"),
        "weigh 0 -2 -1" + Edges.ARGUMENT, "weigh 0 -1 -1" + Edges.ARGUMENT,
        "weigh -1 -1 0" + Edges.ARGUMENT, "formula 0 a", "tellChance 0", "told = 1/3");
  }

  /** A chance of 1/n and one of n/100 make one of 1/100, whatever n has for divisors. */
  private static List<String> commonDivisors(int first) {
    List<String> lines = new ArrayList<>(List.of("formula 0 a&j"));
    for (int number = first; number < first + 34 && number <= 100; number++) {
      lines.add("weigh 0 1 " + number);
      lines.add("weigh 9 " + number + " 100");
      lines.add("tellChance 0 = 5");
      lines.add("told = 1/100");
    }
    return lines;
  }

  private static void tellChance(Edges edges) {
    edges.about("tellChance");
    String sentence = "Puts the chance of a function into the text: a number, '/', and a number"
        + " above 0, without a common divisor.";
    for (int first = 1; first <= 100; first += 34) {
      edges.test(sentence, commonDivisors(first));
    }
    edges.test(sentence,
        "tellChance 0 = 3", "told = 0/1", "table 0 -1", "tellChance 0 = 3", "told = 1/1",
        "formula 0 a&b|c", "tellChance 0 = 3", "told = 5/8", "weigh 0 96 97", "weigh 1 97 97",
        "weigh 2 0 97", "tellChance 0 = 5", "told = 96/97", "weigh 0 0 1", "tellChance 0 = 3",
        "told = 0/1", "weigh 2 97 97", "tellChance 0 = 3", "told = 1/1");
    edges.test("slot: the slot",
        "formula 0 a", "formula 7 a&j", "tellChance 0", "told = 1/2", "tellChance 7", "told = 1/4",
        Edges.noSlot("tellChance @"));
    edges.test("Returns how many signs the text has then.",
        "tellChance 0 = 3", "text " + "z".repeat(60), "tellChance 0 = 3", "told = 0/1", RARE,
        "formula 0 !(a|b|c|d|e|f|g|h|i|j)", "tellChance 0 = 42",
        "told = 90438207500880449001/100000000000000000000", "formula 0 a|b|c|d|e|f|g|h|i|j",
        "tellChance 0 = 41", "told = 9561792499119550999/100000000000000000000",
        "formula 0 a&b&c&d&e&f&g&h&i&j", "tellChance 0 = 23", "told = 1/100000000000000000000",
        "formula 0 a&b&c", "tellChance 0 = 9", "told = 1/1000000", "weigh 2 1 99",
        "tellChance 0 = 8", "told = 1/990000", "weigh 3 1 2", "formula 0 a&b&c&d",
        "tellChance 0 = 9", "told = 1/1980000", "weigh 2 99 100", "formula 0 !a&!b&!c",
        "tellChance 0 = 12", "told = 9801/1000000", "table 0 -1", "tellChance 0 = 3", "told = 1/1");
    edges.test("Throws IndexOutOfBoundsException if there is no such slot",
        "text a", Edges.noSlot("tellChance @"), "told = a");
  }

  private static void likeliest(Edges edges) {
    edges.about("likeliest");
    edges.test("Returns the model with the greatest chance, of like ones the least row.",
        "table 0 -1", "likeliest 0 = 0", "weigh 9 51 100", "likeliest 0 = 512", "weigh 9 49 100",
        "likeliest 0 = 0", "weigh 0 1 1", "likeliest 0 = 1", "formula 0 !a", "likeliest 0 = 0",
        "formula 0 !a&b|!a&c", "likeliest 0 = 2");
    edges.test("slot: the slot",
        "formula 0 a", "formula 7 j", "likeliest 0 = 1", "likeliest 7 = 512",
        Edges.noSlot("likeliest @"));
    edges.test("Returns the row.",
        "sets 0 0", "ofFamily 0 0", "likeliest 0 = 0", "sets 0 1023", "ofFamily 0 0",
        "likeliest 0 = 1023", RARE, "likeliest 0 = 1023", "table 0 -1", "likeliest 0 = 0");
    edges.test("Throws IndexOutOfBoundsException if there is no such slot",
        "table 0 -1", "table 7 -1", Edges.noSlot("likeliest @"));
    edges.test("Throws NoSuchElementException if there is no model",
        "likeliest 0" + Edges.NONE, "likeliest 7" + Edges.NONE, "formula 0 a&!a",
        "likeliest 0" + Edges.NONE, "weigh 0 0 1", "formula 0 a", "likeliest 0 = 1");
    edges.first("likeliest", Edges.noSlot("likeliest @"));
  }

  private static void placeOf(Edges edges) {
    edges.about("placeOf");
    edges.test("Returns the place of a variable in the order.",
        "placeOf 0 = 0", "placeOf 9 = 9", "swap 0", "placeOf 0 = 1", "placeOf 1 = 0");
    edges.test("variable: 0 to 9",
        "placeOf 0 = 0", "placeOf 1 = 1", "placeOf 8 = 8", "placeOf 9 = 9",
        Edges.noVariable("placeOf @"));
    edges.test("Returns the place.", "sift", "placeOf 0 = 9", "placeOf 9 = 0", "placeOf 4 = 5");
    edges.test("Throws IllegalArgumentException if there is no such variable",
        "swap 8", Edges.noVariable("placeOf @"));
  }

  private static void swap(Edges edges) {
    edges.about("swap");
    edges.test("Changes two neighbours in the order about.",
        "swap 4", "order = abcdfeghij", "swap 4", "order = abcdefghij", "swap 4", "swap 5",
        "order = abcdfgehij");
    edges.test("place: the place of the first one, 0 to 8",
        "swap 0 = 0", "order = bacdefghij", "swap 8 = 0", "order = bacdefghji",
        Edges.beyond(0, 8, Edges.ARGUMENT, "swap @"), "order = bacdefghji");
    edges.test("Returns how many nodes all slots of functions have then.",
        "swap 0 = 0", "swap 0 = 0", "formula 0 a&c|b&d = 6", "swap 1 = 4", "swap 1 = 6",
        FunctionEdges.MOST_NODES, "swap 1 = 1270", "swap 1 = 1270");
    edges.test("Throws IllegalArgumentException if it is out of range",
        "swap 8", Edges.beyond(0, 8, Edges.ARGUMENT, "swap @"), "swap 10" + Edges.ARGUMENT);
  }

  private static void sift(Edges edges) {
    edges.about("sift");
    edges.test("Takes one variable after another, from a on, to that place at which all slots of"
            + " functions have the fewest nodes, all others keeping their order; of like places to"
            + " the first one.",
        // a stays, b goes behind c, c to the first place, d between a and b; e to j to the first.
        "formula 0 a&c|b&d = 6", "sift = 4", "order = jihgfecadb", "sift = 4", "models 0 = 448",
        "undo = 0", "order");
    edges.test("Returns how many nodes all slots of functions have then.",
        "sift = 0", "order = jihgfedcba", "table 0 -1", "sift = 0", "order = jihgfedcba",
        "formula 0 a", "sift = 1", "order = jihgfedcba", "formula 7 b", "sift = 2",
        FunctionEdges.MOST_NODES, "sift", "isSound = true");
  }

  private static void fewest(Edges edges) {
    edges.about("fewest");
    edges.test("Returns how many nodes a function has by that order by which it has the fewest.",
        "formula 0 a&c|b&d = 6", "fewest 0 = 4", "order = abcdefghij", "nodes 0 = 6");
    edges.test("slot: the slot",
        "formula 0 a&b", "formula 7 j", "fewest 0 = 2", "fewest 7 = 1", Edges.noSlot("fewest @"));
    edges.test("Returns how many.",
        "fewest 0 = 0", "table 0 -1", "fewest 0 = 0", "formula 0 j", "fewest 0 = 1",
        "formula 0 f^g^h^i^j", "fewest 0 = 9");
    edges.test("Throws IndexOutOfBoundsException if there is no such slot",
        Edges.noSlot("fewest @"));
    edges.test("Throws UnsupportedOperationException if it hangs on more than 5 variables",
        "formula 0 a&b&c&d&e", "fewest 0 = 5", "formula 0 f|g|h|i|j", "fewest 0 = 5",
        "formula 0 a&b&c&d&e&f", "fewest 0" + Edges.UNSUPPORTED, "formula 0 e|f|g|h|i|j",
        "fewest 0" + Edges.UNSUPPORTED, "formula 0 a^b^c^d^e^f^g^h^i^j",
        "fewest 0" + Edges.UNSUPPORTED, "formula 0 a&b&c&d&e&(f|!f)", "fewest 0 = 5");
    edges.first("fewest", "formula 0 a&b&c&d&e&f", "formula 7 a&b&c&d&e&f",
        Edges.noSlot("fewest @"));
  }
}
