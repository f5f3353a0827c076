import java.math.BigInteger;
import java.util.ArrayList;
import java.util.List;

/** Promises 21 to 30: models, weights, and the order. */
public final class ModelsTest {
  private ModelsTest() {}

  /** Promise 21. */
  private static void models() {
    House house = Houses.with("a", "a|b", "1", "a&b&c&d&e&f&g&h&i&j", "a^j");
    Check.same("models of a", house.models(0), 512);
    Check.same("models of a|b", house.models(1), 768);
    Check.same("models of all", house.models(2), 1024);
    Check.same("models of a single row", house.models(3), 1);
    Check.same("models of a^j", house.models(4), 512);
    Check.same("models of nothing", house.models(5), 0);
    for (int slot : Houses.NO_SLOTS) {
      Check.fails("models " + slot, house, IndexOutOfBoundsException.class,
          () -> house.models(slot));
    }
  }

  private static List<Integer> listed(House house, int slot) {
    List<Integer> rows = new ArrayList<>();
    for (int number = 0; number < house.models(slot); number++) {
      rows.add(house.modelAt(slot, number));
    }
    return rows;
  }

  /** Promises 22 and 23. */
  private static void modelAtAndRank() {
    House house = new House();
    Houses.family(house, 0, 1, 2, 3, 0, 512, 1023);
    house.ofFamily(0, 0);
    Check.same("models by a, b and so on", listed(house, 0), List.of(0, 512, 2, 1, 3, 1023));
    house.swap(0);
    Check.same("models by b, a and so on", listed(house, 0), List.of(0, 512, 1, 2, 3, 1023));
    Check.same("the rank by b, a and so on", house.rank(0, 2), 3);
    for (int place = 8; place >= 0; place--) {
      house.swap(place);
    }
    Check.same("models by j, b, a and so on", listed(house, 0), List.of(0, 1, 2, 3, 512, 1023));
    house.table(1, -1L);
    for (int row : new int[] {0, 1, 2, 3, 512, 777, 1023}) {
      Check.same("rank and model " + row, house.modelAt(1, house.rank(1, row)), row);
    }
    Check.same("the first of all", house.rank(1, 0), 0);
    Check.same("the last of all", house.rank(1, 1023), 1023);
    Check.same("the middle by j", house.rank(1, 512), 512);
    House other = Houses.with("1");
    Check.same("the middle by a", other.rank(0, 1), 512);
    Check.same("the second by a", other.modelAt(0, 1), 512);
    wrongModels(house);
  }

  private static void wrongModels(House house) {
    for (int slot : Houses.NO_SLOTS) {
      Check.fails("modelAt " + slot, house, IndexOutOfBoundsException.class,
          () -> house.modelAt(slot, -1));
      Check.fails("rank " + slot, house, IndexOutOfBoundsException.class,
          () -> house.rank(slot, 1024));
    }
    for (int number : new int[] {-1, 6, 1024, Integer.MIN_VALUE, Integer.MAX_VALUE}) {
      Check.fails("modelAt number " + number, house, java.util.NoSuchElementException.class,
          () -> house.modelAt(0, number));
    }
    Check.fails("modelAt of none", house, java.util.NoSuchElementException.class,
        () -> house.modelAt(7, 0));
    Check.fails("modelAt beyond all", house, java.util.NoSuchElementException.class,
        () -> house.modelAt(1, 1024));
    for (int row : Houses.NO_SETS) {
      Check.fails("rank of row " + row, house, IllegalArgumentException.class,
          () -> house.rank(0, row));
    }
    for (int row : new int[] {4, 511, 1022}) {
      Check.fails("rank of no model " + row, house, java.util.NoSuchElementException.class,
          () -> house.rank(0, row));
    }
  }

  /** Promise 24. */
  private static void weigh() {
    House house = Houses.with("a", "j");
    Check.same("weigh a", house.weigh(0, 1, 3), 1);
    Check.same("weigh a once more", house.weigh(0, 2, 3), 1);
    Check.same("weigh j", house.weigh(9, 0, 1), 2);
    Check.same("weigh b like at first", house.weigh(1, 50, 100), 2);
    Check.same("weigh c to 1", house.weigh(2, 100, 100), 3);
    Check.same("weigh a like at first", house.weigh(0, 3, 6), 2);
    Check.same("weigh a to 49/99", house.weigh(0, 49, 99), 3);
    for (int variable : Houses.NO_VARIABLES) {
      Check.fails("weigh " + variable, house, IllegalArgumentException.class,
          () -> house.weigh(variable, 1, 3));
    }
    int[][] wrong = {
      {-1, 3}, {4, 3}, {2, 1}, {0, 0}, {1, 0}, {1, 101}, {0, 101}, {-1, -1}, {-2, -1}, {0, -5},
      {101, 100}, {Integer.MIN_VALUE, 3}, {Integer.MAX_VALUE, 3}, {1, Integer.MAX_VALUE},
      {0, Integer.MIN_VALUE}, {Integer.MIN_VALUE, Integer.MIN_VALUE}
    };
    for (int[] weight : wrong) {
      Check.fails("weigh to " + weight[0] + "/" + weight[1], house,
          IllegalArgumentException.class, () -> house.weigh(0, weight[0], weight[1]));
    }
    chance("weights stay then, a", house, 0, "49/99");
    chance("weights stay then, j", house, 1, "0/1");
    Check.same("weights are not kept", house.undo(), 1);
    Houses.read(house, 1, "a");
    chance("undo leaves weights alone", house, 1, "49/99");
  }

  private static void chance(String what, House house, int slot, String due) {
    Check.same(what + ", signs", house.tellChance(slot), due.length());
    Check.same(what, Houses.text(house), due);
  }

  /** Promise 25. */
  private static void tellChance() {
    House house = Houses.with("a&b", "a|b", "a&b&c&d&e&f&g&h&i&j", "1", "0", "a^b");
    chance("at first, a&b", house, 0, "1/4");
    chance("at first, a|b", house, 1, "3/4");
    chance("at first, one row", house, 2, "1/1024");
    chance("at first, all", house, 3, "1/1");
    chance("at first, nothing", house, 4, "0/1");
    house.weigh(0, 1, 3);
    house.weigh(1, 2, 5);
    chance("a&b", house, 0, "2/15");
    chance("a|b", house, 1, "3/5");
    chance("a^b", house, 5, "7/15");
    chance("all", house, 3, "1/1");
    chance("nothing", house, 4, "0/1");
    house.weigh(0, 0, 7);
    chance("what has models, but no chance", house, 0, "0/1");
    house.weigh(0, 7, 7);
    chance("a is sure", house, 0, "2/5");
    chance("a or b is sure", house, 1, "1/1");
    Houses.type(house, "xyz");
    chance("in place of what was there", house, 0, "2/5");
    for (int slot : Houses.NO_SLOTS) {
      Check.fails("tellChance " + slot, house, IndexOutOfBoundsException.class,
          () -> house.tellChance(slot));
    }
    Check.same("the text stays then", Houses.text(house), "2/5");
  }

  private static void greatChances() {
    House house = Houses.with("a&b&c&d&e&f&g&h&i&j", "a|b|c|d|e|f|g|h|i|j", "1");
    int[] aboves = {97, 89, 83, 79, 73, 71, 67, 61, 59, 53};
    BigInteger product = BigInteger.ONE;
    for (int variable = 0; variable < 10; variable++) {
      house.weigh(variable, aboves[variable], 100);
      product = product.multiply(BigInteger.valueOf(aboves[variable]));
    }
    chance("a great chance", house, 0, product + "/100000000000000000000");
    chance("a whole one", house, 2, "1/1");
    for (int variable = 0; variable < 10; variable++) {
      house.weigh(variable, 1, 100);
    }
    chance("a small chance", house, 0, "1/100000000000000000000");
    BigInteger none = BigInteger.valueOf(99).pow(10);
    BigInteger all = BigInteger.TEN.pow(20);
    chance("all but a small chance", house, 1, all.subtract(none) + "/" + all);
    for (int variable = 0; variable < 10; variable++) {
      house.weigh(variable, 64, 96);
    }
    chance("much in common", house, 0, "1024/59049");
    chance("zeros within", Houses.with("j"), 0, "1/2");
    for (int variable = 0; variable < 10; variable++) {
      house.weigh(variable, variable < 3 ? 1 : 99, 99);
    }
    chance("a whole number of millions below", house, 0, "1/970299");
    for (int variable = 0; variable < 10; variable++) {
      house.weigh(variable, variable < 4 ? 10 : 1, variable < 4 ? 100 : 1);
    }
    chance("a tenth, four times", house, 0, "1/10000");
    chance("the contrary of none", house, 1, "1/1");
    for (int variable = 0; variable < 10; variable++) {
      house.weigh(variable, variable < 3 ? 1 : 7, variable < 3 ? 100 : 7);
    }
    chance("a million", house, 0, "1/1000000");
    for (int variable = 0; variable < 10; variable++) {
      house.weigh(variable, 1, 4);
    }
    chance("a fourth, ten times", house, 0, "1/1048576");
  }

  /** Promise 26. */
  private static void likeliest() {
    House house = Houses.with("a|b", "j", "1", "0", "a&b|!a&!b&j");
    Check.same("at first, the least row", house.likeliest(0), 1);
    Check.same("at first, of j", house.likeliest(1), 512);
    Check.same("at first, of all", house.likeliest(2), 0);
    house.weigh(0, 1, 3);
    Check.same("b is likelier than a", house.likeliest(0), 2);
    house.weigh(1, 2, 3);
    house.weigh(0, 2, 3);
    Check.same("both are likeliest", house.likeliest(0), 3);
    house.weigh(9, 51, 100);
    Check.same("and j too", house.likeliest(0), 515);
    Check.same("of all", house.likeliest(2), 515);
    house.weigh(0, 0, 1);
    Check.same("a never", house.likeliest(4), 512);
    house.weigh(9, 0, 1);
    Check.same("models without a chance are alike", house.likeliest(4), 3);
    for (int slot : Houses.NO_SLOTS) {
      Check.fails("likeliest " + slot, house, IndexOutOfBoundsException.class,
          () -> house.likeliest(slot));
    }
    for (int slot : new int[] {3, 7}) {
      Check.fails("likeliest of none, " + slot, house, java.util.NoSuchElementException.class,
          () -> house.likeliest(slot));
    }
    for (int variable = 0; variable < 10; variable++) {
      house.weigh(variable, 99 - variable, 100);
    }
    Check.same("all likely", house.likeliest(2), 1023);
    house.weigh(5, 99, 99);
    Check.same("a whole one", house.likeliest(2), 1023);
  }

  /** Promises 27 and 28. */
  private static void placeOfAndSwap() {
    House house = Houses.with("a&b|c&d|e&f", "a", "a&c");
    Check.same("swap 0", house.swap(0), 9);
    Check.same("the order then", Houses.order(house), List.of(1, 0, 2, 3, 4, 5, 6, 7, 8, 9));
    Check.same("swap 0 back", house.swap(0), 9);
    Check.same("the order is back", Houses.order(house),
        List.of(0, 1, 2, 3, 4, 5, 6, 7, 8, 9));
    Check.same("swap 8", house.swap(8), 9);
    Check.same("placeOf i", house.placeOf(8), 9);
    Check.same("placeOf j", house.placeOf(9), 8);
    Check.same("placeOf a", house.placeOf(0), 0);
    long before = house.checksum();
    house.swap(4);
    Check.same("the order is in the sum", house.checksum() == before, false);
    Check.same("a function stays", house.hangs(0), 63);
    Check.same("the models stay", house.models(0), 592);
    for (int place : new int[] {-1, 9, 10, Integer.MIN_VALUE, Integer.MAX_VALUE}) {
      Check.fails("swap " + place, house, IllegalArgumentException.class,
          () -> house.swap(place));
    }
    for (int variable : Houses.NO_VARIABLES) {
      Check.fails("placeOf " + variable, house, IllegalArgumentException.class,
          () -> house.placeOf(variable));
    }
    Check.same("the order is not kept", house.undo(), 2);
    Check.same("and stays at undo", house.placeOf(9), 8);
  }

  /** Promise 29. */
  private static void sift() {
    House empty = new House();
    Check.same("sift of nothing", empty.sift(), 0);
    Check.same("each one came to the first place", Houses.order(empty),
        List.of(9, 8, 7, 6, 5, 4, 3, 2, 1, 0));
    House house = Houses.with("a&b|c&d|e&f");
    house.swap(1);
    house.swap(3);
    house.swap(2);
    Check.same("it is at its worst", house.nodes(0), 14);
    Check.same("sift", house.sift(), 6);
    Check.same("nodes then", house.nodes(0), 6);
    Check.same("it stays what it was", house.models(0), 592);
    Check.same("sift is not kept", house.undo(), 0);
    siftLike("g&(h|i&c)", "b&c|!b&a", "i^a");
    siftLike("a&d|b&e|c&f");
    siftLike("j&f|b&i|c&h", "c&d&!e|h&g");
    siftLike("a&f|b&h", "!a&h|b&f|d&(i^c)");
    siftLike("a&j|(b^i)&(c|h)");
    siftLike("b&h|c&i|d&j");
  }

  /** Sifts twice, and looks at the order each time. */
  private static void siftLike(String... formulas) {
    House house = Houses.with(formulas);
    PlainHouse plain = new PlainHouse();
    for (int slot = 0; slot < formulas.length; slot++) {
      readPlain(plain, slot, formulas[slot]);
    }
    for (int times = 1; times <= 2; times++) {
      String what = "sift " + times + " of " + String.join(" and ", formulas);
      Check.same(what, house.sift(), plain.sift());
      Check.same(what + ", the order", Houses.order(house), plain.order);
    }
  }

  private static void readPlain(PlainHouse plain, int slot, String formula) {
    for (char sign : formula.toCharArray()) {
      plain.type(sign);
    }
    plain.read(slot);
  }

  /** Promise 30. */
  private static void fewest() {
    House house = Houses.with("a&d|b&e", "b^d^f^h^j", "1", "a^b&c|d", "a&b&c&d&e&f", "j",
        "a&b|!a&c&d|a&!c&e");
    long before = house.checksum();
    Check.same("fewest of two pairs", house.fewest(0), 4);
    Check.same("which has more as the order stands", house.nodes(0), 6);
    Check.same("fewest of parity of five", house.fewest(1), 9);
    Check.same("fewest of all", house.fewest(2), 0);
    Check.same("fewest of nothing", house.fewest(7), 0);
    Check.same("fewest of a letter", house.fewest(5), 1);
    Check.same("the order stays", house.checksum(), before);
    PlainHouse plain = new PlainHouse();
    readPlain(plain, 3, "a^b&c|d");
    readPlain(plain, 6, "a&b|!a&c&d|a&!c&e");
    Check.same("fewest of four", house.fewest(3), plain.fewest(3));
    Check.same("fewest of five", house.fewest(6), plain.fewest(6));
    house.sift();
    Check.same("fewest by another order", house.fewest(0), 4);
    Check.fails("fewest of six variables", house, UnsupportedOperationException.class,
        () -> house.fewest(4));
    for (int slot : Houses.NO_SLOTS) {
      Check.fails("fewest " + slot, house, IndexOutOfBoundsException.class,
          () -> house.fewest(slot));
    }
  }

  public static void main(String[] args) {
    models();
    modelAtAndRank();
    weigh();
    tellChance();
    greatChances();
    likeliest();
    placeOfAndSwap();
    sift();
    fewest();
    Check.end("ModelsTest");
  }
}
