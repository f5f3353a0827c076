import java.util.ArrayList;
import java.util.List;

/** The edges that promises 31 to 35 name: prime cubes and covers. */
final class CubeEdges {
  /** Two, three or four of a to f: 90 prime cubes, each of two that are 1 and two that are 0. */
  private static final String NINETY = "table 0 " + twoToFour();
  /** Neither none nor all of three: 6 prime cubes, of which 3 cover it, but 4 are left. */
  private static final String RING = "!(a&b&c)&(a|b|c)";
  /** What are the prime cubes of two functions without a variable in common are those of both. */
  private static final String TWO_RINGS = RING + "|!(d&e&f)&(d|e|f)";
  /** Neither none nor all of four: 12 prime cubes, of which 4 cover it. */
  private static final String FOUR = "!(a&b&c&d)&(a|b|c|d)";
  private static final String[] TOO_WIDE = {
    "formula 0 a&b&c&d&e&f&g", "formula 1 d|e|f|g|h|i|j", "formula 7 a^b^c^d^e^f^g^h^i^j"
  };

  private CubeEdges() {}

  static void test(Edges edges) {
    primes(edges);
    tellPrime(edges);
    cover(edges);
    tellCover(edges);
    leastCover(edges);
  }

  private static long twoToFour() {
    long bits = 0;
    for (int row = 0; row < 64; row++) {
      int ones = Integer.bitCount(row);
      if (ones >= 2 && ones <= 4) {
        bits |= 1L << row;
      }
    }
    return bits;
  }

  /** A call refused for each function that hangs on too many variables, but not for six. */
  private static List<Object> tooWide(String call) {
    List<Object> lines = new ArrayList<>(List.of(TOO_WIDE));
    for (String slot : List.of("0", "1", "7")) {
      lines.add(call.replace("@", slot) + Edges.UNSUPPORTED);
    }
    return lines;
  }

  private static void primes(Edges edges) {
    edges.about("primes");
    edges.test("Returns how many prime cubes a function has.",
        "formula 0 a&b|!a&c", "primes 0 = 3", "formula 0 " + RING, "primes 0 = 6");
    edges.test("slot: the slot",
        "formula 0 a|b", "formula 7 j", "primes 0 = 2", "primes 7 = 1", Edges.noSlot("primes @"));
    edges.test("Returns how many.",
        "primes 0 = 0", "table 0 -1", "primes 0 = 1", "formula 0 a^b^c^d^e^f", "primes 0 = 32",
        NINETY, "primes 0 = 90");
    edges.test("Throws IndexOutOfBoundsException if there is no such slot",
        Edges.noSlot("primes @"));
    edges.test("Throws UnsupportedOperationException if it hangs on more than 6 variables",
        tooWide("primes @"), "formula 0 e|f|g|h|i|j", "primes 0 = 6", "formula 0 a&b&c&d&e&j",
        "primes 0 = 1", "formula 0 a&b&c&d&e&j&(f|!f)", "primes 0 = 1");
    edges.first("primes", TOO_WIDE, Edges.noSlot("primes @"));
  }

  private static void tellPrime(Edges edges) {
    edges.about("tellPrime");
    edges.test("Puts a prime cube into the text.",
        "formula 0 a&b|!a&c", "text xyz", "tellPrime 0 0 = 2", "told = bc", "tellPrime 0 1 = 3",
        "told = !ac", "tellPrime 0 2 = 2", "told = ab");
    edges.test("slot: the slot",
        "formula 0 a&b", "formula 7 !j", "tellPrime 0 0 = 2", "told = ab", "tellPrime 7 0 = 2",
        "told = !j", Edges.noSlot("tellPrime @ 0"));
    edges.test("index: its place in order, from 0",
        NINETY, "tellPrime 0 0 = 6", "told = !c!def", "tellPrime 0 89 = 6", "told = ab!c!d",
        "tellPrime 0 -1" + Edges.NONE, "tellPrime 0 90" + Edges.NONE, "told = ab!c!d");
    edges.test("Returns how many signs the text has then.",
        "table 0 -1", "tellPrime 0 0 = 1", "told = 1", "formula 0 f", "tellPrime 0 0 = 1",
        "told = f", "formula 0 !(e|f|g|h|i|j)", "tellPrime 0 0 = 12", "told = !e!f!g!h!i!j");
    edges.test("Throws IndexOutOfBoundsException if there is no such slot",
        "table 0 -1", "table 7 -1", "text a", Edges.noSlot("tellPrime @ 0"), "told = a");
    edges.test("Throws UnsupportedOperationException if it hangs on more than 6 variables",
        tooWide("tellPrime @ 0"), "formula 0 e|f|g|h|i|j", "tellPrime 0 5 = 1", "told = e");
    edges.test("Throws NoSuchElementException if there is no such cube",
        "text a", "tellPrime 0 0" + Edges.NONE, "told = a", "table 0 -1",
        Edges.beyond(0, 0, Edges.NONE, "tellPrime 0 @"), "formula 0 " + RING,
        Edges.beyond(0, 5, Edges.NONE, "tellPrime 0 @"), "tellPrime 0 5 = 3", "told = a!b");
    edges.first("tellPrime", TOO_WIDE, Edges.noSlot("tellPrime @ -1", "tellPrime @ 0"),
        Edges.beyond(0, 0, Edges.UNSUPPORTED, "tellPrime 0 @", "tellPrime 7 @"));
  }

  private static void cover(Edges edges) {
    edges.about("cover");
    edges.test("Returns how many cubes the cover of a function has.",
        "formula 0 a&b|!a&c", "cover 0 = 2", "formula 0 " + RING, "cover 0 = 4");
    edges.test("slot: the slot",
        "formula 0 a|b", "formula 7 j", "cover 0 = 2", "cover 7 = 1", Edges.noSlot("cover @"));
    edges.test("Returns how many.",
        "cover 0 = 0", "table 0 -1", "cover 0 = 1", "formula 0 a^b^c^d^e^f", "cover 0 = 32",
        NINETY, "cover 0");
    edges.test("Throws IndexOutOfBoundsException if there is no such slot",
        Edges.noSlot("cover @"));
    edges.test("Throws UnsupportedOperationException if it hangs on more than 6 variables",
        tooWide("cover @"), "formula 0 e|f|g|h|i|j", "cover 0 = 6", "formula 0 a&b&c&d&e&j",
        "cover 0 = 1");
    edges.first("cover", TOO_WIDE, Edges.noSlot("cover @"));
  }

  private static void tellCover(Edges edges) {
    edges.about("tellCover");
    edges.test("Puts a cube of the cover into the text.",
        "formula 0 a&b|!a&c", "text xyz", "tellCover 0 0 = 3", "told = !ac", "tellCover 0 1 = 2",
        "told = ab");
    edges.test("slot: the slot",
        "formula 0 a&b", "formula 7 !j", "tellCover 0 0 = 2", "told = ab", "tellCover 7 0 = 2",
        "told = !j", Edges.noSlot("tellCover @ 0"));
    edges.test("index: its place in order, from 0",
        "formula 0 " + RING, "tellCover 0 0 = 3", "told = !ac", "tellCover 0 1 = 3", "told = !ab",
        "tellCover 0 2 = 3", "told = a!c", "tellCover 0 3 = 3", "told = a!b",
        "tellCover 0 -1" + Edges.NONE, "tellCover 0 4" + Edges.NONE, "told = a!b");
    edges.test("Returns how many signs the text has then.",
        "table 0 -1", "tellCover 0 0 = 1", "told = 1", "formula 0 f", "tellCover 0 0 = 1",
        "told = f", "formula 0 !(e|f|g|h|i|j)", "tellCover 0 0 = 12", "told = !e!f!g!h!i!j");
    edges.test("Throws IndexOutOfBoundsException if there is no such slot",
        "table 0 -1", "table 7 -1", "text a", Edges.noSlot("tellCover @ 0"), "told = a");
    edges.test("Throws UnsupportedOperationException if it hangs on more than 6 variables",
        tooWide("tellCover @ 0"), "formula 0 e|f|g|h|i|j", "tellCover 0 5 = 1", "told = e");
    edges.test("Throws NoSuchElementException if there is no such cube",
        "text a", "tellCover 0 0" + Edges.NONE, "told = a", "table 0 -1",
        Edges.beyond(0, 0, Edges.NONE, "tellCover 0 @"), "formula 0 a&b|!a&c",
        // There are three prime cubes, but two are left.
        Edges.beyond(0, 1, Edges.NONE, "tellCover 0 @"), "tellCover 0 1 = 2");
    edges.first("tellCover", TOO_WIDE, Edges.noSlot("tellCover @ -1", "tellCover @ 0"),
        Edges.beyond(0, 0, Edges.UNSUPPORTED, "tellCover 0 @", "tellCover 7 @"));
  }

  private static void leastCover(Edges edges) {
    edges.about("leastCover");
    edges.test("Returns the fewest prime cubes that cover a function.",
        "formula 0 " + RING, "cover 0 = 4", "leastCover 0 = 3", "formula 0 a&b|!a&c",
        "leastCover 0 = 2");
    edges.test("slot: the slot",
        "formula 0 a|b", "formula 7 j", "leastCover 0 = 2", "leastCover 7 = 1",
        Edges.noSlot("leastCover @"));
    edges.test("Returns how many.",
        "leastCover 0 = 0", "table 0 -1", "leastCover 0 = 1", "formula 0 " + FOUR, "primes 0 = 12",
        "leastCover 0 = 4", "formula 0 " + TWO_RINGS, "primes 0 = 12", "leastCover 0 = 6",
        "cover 0 = 8", "formula 0 a^b^c^d", "leastCover 0 = 8",
        // Of three prime cubes the last one, the middle one and the first one can be left out.
        "formula 0 c&a|!c&b", "leastCover 0 = 2", "formula 0 b&a|!b&c", "leastCover 0 = 2",
        "formula 0 a&b|!a&c", "leastCover 0 = 2");
    edges.test("Throws IndexOutOfBoundsException if there is no such slot",
        Edges.noSlot("leastCover @"));
    edges.test("Throws UnsupportedOperationException if it hangs on more than 6 variables, or has"
            + " more than 12 prime cubes",
        tooWide("leastCover @"), "formula 0 " + FOUR + "|e", "primes 0 = 13",
        "leastCover 0" + Edges.UNSUPPORTED, "formula 0 a^b^c^d^e^f",
        "leastCover 0" + Edges.UNSUPPORTED, NINETY, "leastCover 0" + Edges.UNSUPPORTED,
        "formula 0 " + FOUR + "&e", "primes 0 = 12", "leastCover 0 = 4", "formula 0 e|f|g|h|i|j",
        "leastCover 0 = 6");
    edges.first("leastCover", TOO_WIDE, Edges.noSlot("leastCover @"));
  }
}
