import java.util.ArrayList;
import java.util.List;
import java.util.NoSuchElementException;

/** Promises 31 to 35: prime cubes and covers. */
public final class CubesTest {
  private static final long WITH_12 = 0xbee860f7bee860f7L;
  private static final long WITH_13 = 0x718decfd718decfdL;
  private static final String SEVEN = "a|b|c|d|e|f|g";

  private CubesTest() {}

  private static List<String> primesOf(House house, int slot) {
    List<String> told = new ArrayList<>();
    for (int index = 0; index < house.primes(slot); index++) {
      int signs = house.tellPrime(slot, index);
      told.add(Houses.text(house));
      Check.same("signs of a prime cube", signs, told.get(index).length());
    }
    return told;
  }

  private static List<String> coverOf(House house, int slot) {
    List<String> told = new ArrayList<>();
    for (int index = 0; index < house.cover(slot); index++) {
      int signs = house.tellCover(slot, index);
      told.add(Houses.text(house));
      Check.same("signs of a cube of a cover", signs, told.get(index).length());
    }
    return told;
  }

  /** Promises 31 and 32. */
  private static void primes() {
    House house = Houses.with("a&b|!a&c", "1", "0", "a|b|c|d|e|f", "j&!h&e",
        "a^b^c^d^e^f", "!(a&b&c)&(a|b|c)", SEVEN);
    Check.same("primes of a choice", house.primes(0), 3);
    Check.same("they are", primesOf(house, 0), List.of("bc", "!ac", "ab"));
    Check.same("the prime of all", primesOf(house, 1), List.of("1"));
    Check.same("the primes of nothing", house.primes(2), 0);
    Check.same("primes of six letters", primesOf(house, 3),
        List.of("f", "e", "d", "c", "b", "a"));
    Check.same("a cube is its own prime", primesOf(house, 4), List.of("e!hj"));
    Check.same("primes of parity of six", house.primes(5), 32);
    Check.same("the first one", house.tellPrime(5, 0), 11);
    Check.same("which is", Houses.text(house), "!a!b!c!d!ef");
    Check.same("the last one", house.tellPrime(5, 31), 7);
    Check.same("which is", Houses.text(house), "abcde!f");
    Check.same("primes of a ring", primesOf(house, 6),
        List.of("!bc", "b!c", "!ac", "!ab", "a!c", "a!b"));
    house.swap(0);
    Check.same("the order of the house is not theirs", primesOf(house, 6),
        List.of("!bc", "b!c", "!ac", "!ab", "a!c", "a!b"));
    wrongPrimes(house);
  }

  private static void wrongPrimes(House house) {
    for (int slot : Houses.NO_SLOTS) {
      Check.fails("primes " + slot, house, IndexOutOfBoundsException.class,
          () -> house.primes(slot));
      Check.fails("tellPrime " + slot, house, IndexOutOfBoundsException.class,
          () -> house.tellPrime(slot, -1));
    }
    Check.fails("primes of seven letters", house, UnsupportedOperationException.class,
        () -> house.primes(7));
    for (int index : new int[] {-1, 0, 6, 7, Integer.MIN_VALUE, Integer.MAX_VALUE}) {
      Check.fails("tellPrime of seven letters, " + index, house,
          UnsupportedOperationException.class, () -> house.tellPrime(7, index));
      if (index != 0) {
        Check.fails("tellPrime of a ring, " + index, house, NoSuchElementException.class,
            () -> house.tellPrime(6, index));
      }
      Check.fails("tellPrime of nothing, " + index, house, NoSuchElementException.class,
          () -> house.tellPrime(2, index));
    }
  }

  /** Promises 33 and 34. */
  private static void cover() {
    House house = Houses.with("a&b|!a&c", "1", "0", "a|b|c|d|e|f", "a^b^c^d^e^f",
        "!(g&h&i)&(g|h|i)", "a&b|b&c|c&a", SEVEN);
    Check.same("cover of a choice", house.cover(0), 2);
    Check.same("it is", coverOf(house, 0), List.of("!ac", "ab"));
    Check.same("cover of all", coverOf(house, 1), List.of("1"));
    Check.same("cover of nothing", house.cover(2), 0);
    Check.same("cover of six letters", coverOf(house, 3),
        List.of("f", "e", "d", "c", "b", "a"));
    Check.same("cover of parity of six", house.cover(4), 32);
    Check.same("cover of a ring", coverOf(house, 5), List.of("!gi", "!gh", "g!i", "g!h"));
    Check.same("cover of two of three", coverOf(house, 6), List.of("bc", "ac", "ab"));
    for (int slot : Houses.NO_SLOTS) {
      Check.fails("cover " + slot, house, IndexOutOfBoundsException.class,
          () -> house.cover(slot));
      Check.fails("tellCover " + slot, house, IndexOutOfBoundsException.class,
          () -> house.tellCover(slot, -1));
    }
    Check.fails("cover of seven letters", house, UnsupportedOperationException.class,
        () -> house.cover(7));
    for (int index : new int[] {-1, 4, 5, 6, 240, Integer.MIN_VALUE, Integer.MAX_VALUE}) {
      Check.fails("tellCover of seven letters, " + index, house,
          UnsupportedOperationException.class, () -> house.tellCover(7, index));
      Check.fails("tellCover of a ring, " + index, house, NoSuchElementException.class,
          () -> house.tellCover(5, index));
      Check.fails("tellCover of nothing, " + index, house, NoSuchElementException.class,
          () -> house.tellCover(2, index));
    }
  }

  /** Promise 35. */
  private static void leastCover() {
    House house = Houses.with("a&b|!a&c", "1", "0", "!(g&h&i)&(g|h|i)", "a^b^c^d",
        "a^b^c^d^e", "a|b|c|d|e|f", SEVEN);
    Check.same("least cover of a choice", house.leastCover(0), 2);
    Check.same("least cover of all", house.leastCover(1), 1);
    Check.same("least cover of nothing", house.leastCover(2), 0);
    Check.same("least cover of a ring has fewer than its cover", house.leastCover(3), 3);
    Check.same("least cover of parity of four", house.leastCover(4), 8);
    Check.same("least cover of six letters", house.leastCover(6), 6);
    Check.fails("least cover of sixteen primes", house, UnsupportedOperationException.class,
        () -> house.leastCover(5));
    Check.fails("least cover of seven letters", house, UnsupportedOperationException.class,
        () -> house.leastCover(7));
    PlainHouse plain = new PlainHouse();
    house.table(0, WITH_12);
    plain.table(0, WITH_12);
    Check.same("there are twelve primes", house.primes(0), 12);
    Check.same("least cover of twelve primes", house.leastCover(0), plain.leastCover(0));
    house.table(0, WITH_13);
    Check.same("there are thirteen primes", house.primes(0), 13);
    Check.fails("least cover of thirteen primes", house, UnsupportedOperationException.class,
        () -> house.leastCover(0));
    for (int slot : Houses.NO_SLOTS) {
      Check.fails("leastCover " + slot, house, IndexOutOfBoundsException.class,
          () -> house.leastCover(slot));
    }
  }

  public static void main(String[] args) {
    primes();
    cover();
    leastCover();
    Check.end("CubesTest");
  }
}
