/** The edges that promises 1 to 5 name: a new house, and the text. */
final class TextEdges {
  private static final String SIXTY = "z".repeat(60);
  /** The longest text that can be told: the chance that none of ten rare things is so. */
  private static final String[] LONGEST = {
    "weigh 0 1 100", "weigh 1 1 100", "weigh 2 1 100", "weigh 3 1 100", "weigh 4 1 100",
    "weigh 5 1 100", "weigh 6 1 100", "weigh 7 1 100", "weigh 8 1 100", "weigh 9 1 100",
    "formula 0 !(a|b|c|d|e|f|g|h|i|j)", "tellChance 0 = 42"
  };

  private TextEdges() {}

  static void test(Edges edges) {
    newHouse(edges);
    type(edges);
    erase(edges);
    signAt(edges);
    read(edges);
  }

  private static void newHouse(Edges edges) {
    edges.about("A new object");
    edges.test("Creates a house.",
        "allNodes = 0", "models 0 = 0", "models 7 = 0", "list 0 = ", "list 5 = ",
        "order = abcdefghij", "told = ", "erase = 0", "weigh 0 1 2 = 0", "edge 0 0 0 = 0",
        "isSound = true", "undo" + Edges.NONE);
  }

  private static void type(Edges edges) {
    edges.about("type");
    edges.test("Puts a sign behind the text.",
        "type a = 1", "told = a", "type b = 2", "told = ab", "type a = 3", "told = aba");
    edges.test("sign: the sign",
        "type #32 = 1", "type #126 = 2", "told =  ~",
        "type #31" + Edges.ARGUMENT, "type #127" + Edges.ARGUMENT, "told =  ~");
    edges.test("Returns how many signs it has then.",
        "type z = 1", "text " + "z".repeat(59), "type y = 60", "signAt 59 = y");
    edges.test("Throws IllegalArgumentException if its code is not 32 to 126",
        "type #0" + Edges.ARGUMENT, "type #31" + Edges.ARGUMENT, "type #127" + Edges.ARGUMENT,
        "type #128" + Edges.ARGUMENT, "type #288" + Edges.ARGUMENT, "type #32768" + Edges.ARGUMENT,
        "type #65535" + Edges.ARGUMENT, "told = ");
    edges.test("Throws IllegalStateException if the text has 60 signs, or more",
        "text " + "z".repeat(59), "type z = 60", "type z" + Edges.STATE, "type #32" + Edges.STATE,
        "type #126" + Edges.STATE, "told = " + SIXTY, "erase = 60", "type z = 1");
    edges.first("type",
        "text " + SIXTY, "type #31" + Edges.ARGUMENT, "type #127" + Edges.ARGUMENT,
        "type #0" + Edges.ARGUMENT, "type #65535" + Edges.ARGUMENT);
  }

  private static void erase(Edges edges) {
    edges.about("erase");
    edges.test("Takes the text away.",
        "text a|b", "erase = 3", "told = ", "type c = 1", "told = c");
    edges.test("Returns how many signs it had.",
        "erase = 0", "type a = 1", "erase = 1", "text " + SIXTY, "erase = 60", "erase = 0",
        LONGEST, "erase = 42", "erase = 0");
  }

  private static void signAt(Edges edges) {
    edges.about("signAt");
    edges.test("Returns a sign of the text.",
        "text ab", "signAt 0 = a", "signAt 1 = b", "erase = 2", "signAt 0" + Edges.BOUNDS);
    edges.test("place: its place, from 0",
        "text x" + "y".repeat(58) + "z", "signAt 0 = x", "signAt 1 = y", "signAt 58 = y",
        "signAt 59 = z", "signAt -1" + Edges.BOUNDS, "signAt 60" + Edges.BOUNDS);
    edges.test("Returns the sign.",
        "type #32 = 1", "type #126 = 2", "signAt 0 =  ", "signAt 1 = ~",
        LONGEST, "signAt 0 = 9", "signAt 20 = /", "signAt 21 = 1", "signAt 41 = 0",
        "signAt 42" + Edges.BOUNDS, "told = 90438207500880449001/100000000000000000000");
    edges.test("Throws IndexOutOfBoundsException if there is no such place",
        "signAt 0" + Edges.BOUNDS, "signAt -1" + Edges.BOUNDS, "text a", "signAt 1" + Edges.BOUNDS,
        "signAt MIN" + Edges.BOUNDS, "signAt MAX" + Edges.BOUNDS, "signAt 59" + Edges.BOUNDS,
        "signAt 60" + Edges.BOUNDS, "signAt 63" + Edges.BOUNDS, "signAt 64" + Edges.BOUNDS);
  }

  private static void read(Edges edges) {
    edges.about("read");
    edges.test("Reads the text as a formula; without a fault a slot becomes its function.",
        "text a&b", "read 0 = 2", "models 0 = 256", "text a&", "read 0 = -3", "models 0 = 256",
        "undo = 0", "undo" + Edges.NONE);
    edges.test("slot: the slot",
        "text a", "read -1" + Edges.BOUNDS, "read 8" + Edges.BOUNDS, "read 0 = 1", "text j",
        "read 7 = 1", "models 0 = 512", "value 7 512 = true", "models 6 = 0", "undo = 7",
        "undo = 0");
    edges.test("Returns how many nodes it has, or -1 less the fault.",
        "text 0", "read 0 = 0", "text 1", "read 0 = 0", "text a", "read 0 = 1",
        "text a^b^c^d^e^f^g^h^i^j", "read 0 = 19", "read 0 = -1", "text )", "read 0 = -1",
        "text " + "(".repeat(60), "read 0 = -61", "text " + "!".repeat(60), "read 0 = -61",
        "text " + "!".repeat(59) + "z", "read 0 = -60", "text " + "!".repeat(59) + "a",
        "read 0 = 1");
    edges.test("Throws IndexOutOfBoundsException if there is no such slot",
        "text a&", Edges.noSlot("read @"), "told = a&", "read 0 = -3", Edges.noSlot("read @"));
  }
}
