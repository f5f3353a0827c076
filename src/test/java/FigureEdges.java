import java.math.BigInteger;

/** The edges that promises 51 to 53 name: what is kept, the sum over all, and the theorem. */
final class FigureEdges {
  private FigureEdges() {}

  static void test(Edges edges) {
    undo(edges);
    checksum(edges);
    isSound(edges);
  }

  private static void undo(Edges edges) {
    edges.about("undo");
    edges.test("Lets the slot of the latest call that is kept hold what it held ahead of it; that"
            + " call is kept no longer.",
        "mark", "table 0 1", "marked = false", "undo = 0", "marked = true", "undo" + Edges.NONE,
        "table 0 1", "mark", "table 0 2", "add 0 5", "undo = 100", "undo = 0", "marked = true",
        "value 0 0 = true", "undo = 0", "models 0 = 0", "undo" + Edges.NONE, "table 3 1",
        "undo = 3");
    edges.test("Returns the slot, 100 more if it is one of families.",
        "table 0 1", "table 7 1", "add 0 1", "add 5 1", "undo = 105", "undo = 100", "undo = 7",
        "undo = 0");
    edges.test("Throws NoSuchElementException if no call is kept",
        "undo" + Edges.NONE, "add 0 1", "undo = 100", "undo" + Edges.NONE, "text a|", "read 0 = -3",
        "undo" + Edges.NONE, "read 8" + Edges.BOUNDS, "undo" + Edges.NONE, "repeat 12 table 1 5",
        "repeat 12 undo = 1", "undo" + Edges.NONE, "models 1 = 0", "repeat 13 table 1 5",
        "repeat 12 undo = 1", "undo" + Edges.NONE, "models 1 = 32");
  }

  private static BigInteger next(BigInteger sum, int number) {
    return sum.multiply(BigInteger.valueOf(31)).add(BigInteger.valueOf(number));
  }

  /** The sum as it is without going round, of a house that tells all that it is made of. */
  private static BigInteger whole(Script house) {
    BigInteger sum = BigInteger.valueOf(7);
    for (int slot = 0; slot < 8; slot++) {
      for (int row = 0; row < 1024; row++) {
        sum = next(sum, house.answer("value " + slot + " " + row).equals("true") ? 1 : 0);
      }
    }
    for (int slot = 0; slot < 6; slot++) {
      String sets = house.answer("list " + slot);
      String[] each = sets.isEmpty() ? new String[0] : sets.split(" ");
      sum = next(sum, each.length);
      for (String set : each) {
        sum = next(sum, Integer.parseInt(set));
      }
    }
    for (char letter : house.answer("order").toCharArray()) {
      sum = next(sum, letter - 'a');
    }
    for (char sign : house.answer("told").toCharArray()) {
      sum = next(sum, sign);
    }
    return sum;
  }

  /** The sum is asked first: the calls that tell what it is made of are more than are promised. */
  private static void goesRound(String what, String... lines) {
    Script house = new Script(new Forkhouse());
    Script plain = new Script(new PlainHouse());
    for (String line : lines) {
      house.answer(line);
      plain.answer(line);
    }
    BigInteger sum = whole(plain);
    Check.same(what + ", is more than a long", sum.bitLength() > 64, true);
    Check.same(what + ", the sum", house.answer("checksum"), String.valueOf(sum.longValue()));
  }

  private static void checksum(Edges edges) {
    edges.about("checksum");
    edges.tests("Returns a sum over all, a long that goes round.");
    goesRound("a new house", "erase");
    goesRound("a house with all rows", "table 0 -1", "table 7 -1", "sets 0 0 1023", "sets 5 1",
        "sift", "text " + "~".repeat(60));
    goesRound("a house with a text alone", "text a");
    edges.tests("Returns 7 at first, then for each slot..");
    goesRound("the first row", "sets 0 0", "ofFamily 0 0", "sets 0");
    goesRound("the last row", "sets 0 1023", "ofFamily 7 0", "sets 0");
    goesRound("the empty set", "sets 0 0");
    goesRound("all things, in the last family", "sets 5 1023");
    goesRound("the variables in another order", "swap 0", "swap 8", "swap 4");
    goesRound("what a call told", "tellChance 0");
    edges.about("checksum", "mark");
    edges.test("Returns a sum over all, a long that goes round.",
        "weigh 0 1 3", "edge 0 0 1", "table 0 0", "marked = true", "swap 0", "marked = false",
        "swap 0", "marked = true", "type a", "marked = false", "erase", "marked = true", "add 0 0",
        "marked = false", "undo", "marked = true", "table 7 1", "marked = false", "undo",
        "marked = true");
  }

  private static void isSound(Edges edges) {
    edges.about("isSound");
    edges.test("Checks the theorem for what there is: each slot of functions row by row..",
        // Four variables and five, eight sets and nine.
        "formula 0 a^b^c^d", "formula 1 a^b^c^d^e", "formula 2 !(g&h&i&j)&(g|h|i|j)",
        "formula 3 !(a&b&c&d&e)&(a|b|c|d|e)", "table 4 -1", "sets 0 1 2 3 4 5 6 7 8",
        "sets 1 1 2 3 4 5 6 7 8 9", "sets 2 0", "sets 3 0 1023", "weigh 0 0 1", "weigh 1 1 1",
        "weigh 2 1 100", "mark", "isSound = true", "marked = true", "undo = 103", "sift",
        "isSound = true");
    edges.test("Returns true if so.",
        "isSound = true", FunctionEdges.MOST_NODES, "isSound = true", "swap 8", "isSound = true",
        "table 0 -1", "ofFunction 0 0", "isSound = true", "hitting 1 0", "hitting 2 1",
        "isSound = true", "edge 0 0 6", "edge 1 0 6", "ways 3 0 6", "pairings 4", "isSound = true");
  }
}
