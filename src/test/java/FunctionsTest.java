/** Promises 6 to 20: functions. */
public final class FunctionsTest {
  private FunctionsTest() {}

  private static boolean bit(int row, char letter) {
    return Houses.bit(row, letter);
  }

  /** Promise 6. */
  private static void table() {
    House house = new House();
    Check.same("table of a", house.table(0, 0xAAAAAAAAAAAAAAAAL), 1);
    Houses.isTrueWhere("table of a", house, 0, row -> bit(row, 'a'));
    Check.same("table of f", house.table(7, 0xFFFFFFFF00000000L), 1);
    Houses.isTrueWhere("table of f", house, 7, row -> bit(row, 'f'));
    Check.same("table of nothing", house.table(1, 0L), 0);
    Check.same("table of all", house.table(1, -1L), 0);
    Check.same("models of all", house.models(1), 1024);
    Check.same("table of the row 0", house.table(2, 1L), 6);
    Houses.isTrueWhere("table of the row 0", house, 2, row -> row % 64 == 0);
    Check.same("table of the row 63", house.table(2, Long.MIN_VALUE), 6);
    Houses.isTrueWhere("table of the row 63", house, 2, row -> row % 64 == 63);
    long bits = 0x0123456789ABCDEFL;
    house.table(3, bits);
    Houses.isTrueWhere("table of any", house, 3, row -> (bits >> row % 64 & 1) == 1);
    for (int slot : Houses.NO_SLOTS) {
      Check.fails("table " + slot, house, IndexOutOfBoundsException.class,
          () -> house.table(slot, 1L));
    }
  }

  /** Promise 7. */
  private static void value() {
    House house = Houses.with("a&j|!a&!j");
    Check.same("value 0", house.value(0, 0), true);
    Check.same("value 1", house.value(0, 1), false);
    Check.same("value 512", house.value(0, 512), false);
    Check.same("value 513", house.value(0, 513), true);
    Check.same("value 1023", house.value(0, 1023), true);
    Check.same("value 1022", house.value(0, 1022), false);
    Check.same("value of a new slot", house.value(7, 1023), false);
    for (int slot : Houses.NO_SLOTS) {
      Check.fails("value " + slot, house, IndexOutOfBoundsException.class,
          () -> house.value(slot, 0));
      Check.fails("value " + slot + " of no row", house, IndexOutOfBoundsException.class,
          () -> house.value(slot, 1024));
    }
    for (int row : Houses.NO_SETS) {
      Check.fails("value of row " + row, house, IllegalArgumentException.class,
          () -> house.value(0, row));
    }
  }

  /** Promise 8. */
  private static void make() {
    House house = Houses.with("a", "h");
    Check.same("make &", house.make(2, 0, 1, '&'), 2);
    Houses.isTrueWhere("make &", house, 2, row -> bit(row, 'a') && bit(row, 'h'));
    Check.same("make |", house.make(2, 0, 1, '|'), 2);
    Houses.isTrueWhere("make |", house, 2, row -> bit(row, 'a') || bit(row, 'h'));
    Check.same("make ^", house.make(2, 0, 1, '^'), 3);
    Houses.isTrueWhere("make ^", house, 2, row -> bit(row, 'a') != bit(row, 'h'));
    Check.same("make -", house.make(2, 0, 1, '-'), 2);
    Houses.isTrueWhere("make -", house, 2, row -> bit(row, 'a') && !bit(row, 'h'));
    Check.same("make >", house.make(2, 0, 1, '>'), 2);
    Houses.isTrueWhere("make >", house, 2, row -> bit(row, 'h') || !bit(row, 'a'));
    Check.same("make > of the same", house.make(3, 0, 0, '>'), 0);
    Check.same("which is everywhere", house.models(3), 1024);
    Check.same("make of itself", house.make(0, 0, 1, '-'), 2);
    Houses.isTrueWhere("make of itself", house, 0, row -> bit(row, 'a') && !bit(row, 'h'));
    Check.same("make ^ of itself", house.make(0, 0, 0, '^'), 0);
    Check.same("which is nowhere", house.models(0), 0);
    for (int slot : Houses.NO_SLOTS) {
      Check.fails("make " + slot, house, IndexOutOfBoundsException.class,
          () -> house.make(slot, 0, 1, '&'));
      Check.fails("make of " + slot, house, IndexOutOfBoundsException.class,
          () -> house.make(0, slot, 1, '&'));
      Check.fails("make of another " + slot, house, IndexOutOfBoundsException.class,
          () -> house.make(0, 1, slot, '?'));
    }
    for (char how : new char[] {'+', '<', '*', ' ', '!', 0, 'a', (char) 65535}) {
      Check.fails("make by " + (int) how, house, IllegalArgumentException.class,
          () -> house.make(0, 1, 2, how));
    }
  }

  /** Promise 9. */
  private static void choose() {
    House house = Houses.with("a", "c&d", "e|j");
    Check.same("choose", house.choose(3, 0, 1, 2), 5);
    Houses.isTrueWhere("choose", house, 3, row ->
        bit(row, 'a') ? bit(row, 'c') && bit(row, 'd') : bit(row, 'e') || bit(row, 'j'));
    Check.same("choose the other way", house.choose(3, 0, 2, 1), 5);
    Houses.isTrueWhere("choose the other way", house, 3, row ->
        bit(row, 'a') ? bit(row, 'e') || bit(row, 'j') : bit(row, 'c') && bit(row, 'd'));
    Check.same("choose into the third one", house.choose(0, 0, 1, 2), 5);
    Check.same("choose into the one", house.choose(1, 1, 1, 1), 2);
    Houses.isTrueWhere("choose of the same", house, 1, row -> bit(row, 'c') && bit(row, 'd'));
    for (int slot : Houses.NO_SLOTS) {
      Check.fails("choose " + slot, house, IndexOutOfBoundsException.class,
          () -> house.choose(slot, 0, 1, 2));
      Check.fails("choose by " + slot, house, IndexOutOfBoundsException.class,
          () -> house.choose(0, slot, 1, 2));
      Check.fails("choose the one " + slot, house, IndexOutOfBoundsException.class,
          () -> house.choose(0, 1, slot, 2));
      Check.fails("choose the other one " + slot, house, IndexOutOfBoundsException.class,
          () -> house.choose(0, 1, 2, slot));
    }
  }

  /** Promise 10. */
  private static void fix() {
    House house = Houses.with("a&b|!a&c^j", "f&g|!f&h");
    Check.same("fix a to 1", house.fix(2, 0, 0, true), 2);
    Houses.isTrueWhere("fix a to 1", house, 2, row -> bit(row, 'b') || bit(row, 'j'));
    house.fix(2, 0, 0, false);
    Houses.isTrueWhere("fix a to 0", house, 2, row -> bit(row, 'c') != bit(row, 'j'));
    Check.same("fix f to 1", house.fix(2, 1, 5, true), 1);
    Houses.isTrueWhere("fix f to 1", house, 2, row -> bit(row, 'g'));
    Check.same("fix f to 0", house.fix(2, 1, 5, false), 1);
    Houses.isTrueWhere("fix f to 0", house, 2, row -> bit(row, 'h'));
    Check.same("fix g to 0", house.fix(2, 1, 6, false), 2);
    Houses.isTrueWhere("fix g to 0", house, 2, row -> !bit(row, 'f') && bit(row, 'h'));
    Check.same("fix what it does not hang on", house.fix(2, 1, 9, true), 3);
    Check.same("which changes nothing", house.isSame(1, 2), true);
    Check.same("fix itself", house.fix(1, 1, 7, true), 2);
    Houses.isTrueWhere("fix itself", house, 1, row -> bit(row, 'g') || !bit(row, 'f'));
    for (int slot : Houses.NO_SLOTS) {
      Check.fails("fix " + slot, house, IndexOutOfBoundsException.class,
          () -> house.fix(slot, 0, 0, true));
      Check.fails("fix of " + slot, house, IndexOutOfBoundsException.class,
          () -> house.fix(0, slot, 10, true));
    }
    for (int variable : Houses.NO_VARIABLES) {
      Check.fails("fix the variable " + variable, house, IllegalArgumentException.class,
          () -> house.fix(2, 0, variable, true));
    }
  }

  /** Promise 11. */
  private static void put() {
    House house = Houses.with("a&b|!a&c", "d^i", "g|h");
    house.put(3, 0, 0, 1);
    Houses.isTrueWhere("put in place of a", house, 3, row ->
        bit(row, 'd') != bit(row, 'i') ? bit(row, 'b') : bit(row, 'c'));
    Check.same("put in place of g", house.put(3, 2, 6, 1), 5);
    Houses.isTrueWhere("put in place of g", house, 3, row ->
        bit(row, 'd') != bit(row, 'i') || bit(row, 'h'));
    Check.same("put a function in place of its own variable", house.put(3, 2, 7, 2), 2);
    Houses.isTrueWhere("which is as it was", house, 3, row -> bit(row, 'g') || bit(row, 'h'));
    Check.same("put in place of what it does not hang on", house.put(3, 2, 0, 1), 2);
    Check.same("which changes nothing", house.isSame(2, 3), true);
    house.put(0, 0, 1, 0);
    Houses.isTrueWhere("put into itself", house, 0, row ->
        bit(row, 'a') ? bit(row, 'b') : bit(row, 'c'));
    house.put(1, 2, 7, 1);
    Houses.isTrueWhere("put into the other one", house, 1, row ->
        bit(row, 'g') || bit(row, 'd') != bit(row, 'i'));
    for (int slot : Houses.NO_SLOTS) {
      Check.fails("put " + slot, house, IndexOutOfBoundsException.class,
          () -> house.put(slot, 0, 0, 1));
      Check.fails("put into " + slot, house, IndexOutOfBoundsException.class,
          () -> house.put(0, slot, 0, 1));
      Check.fails("put of " + slot, house, IndexOutOfBoundsException.class,
          () -> house.put(0, 1, -1, slot));
    }
    for (int variable : Houses.NO_VARIABLES) {
      Check.fails("put for the variable " + variable, house, IllegalArgumentException.class,
          () -> house.put(2, 0, variable, 1));
    }
  }

  /** Promise 12. */
  private static void some() {
    House house = Houses.with("a&b&!j|c&j", "a^g");
    Check.same("some of no variable", house.some(2, 0, 0), house.nodes(0));
    Check.same("some of no variable is the same", house.isSame(0, 2), true);
    Check.same("some of j", house.some(2, 0, 512), 3);
    Houses.isTrueWhere("some of j", house, 2, row ->
        bit(row, 'a') && bit(row, 'b') || bit(row, 'c'));
    Check.same("some of a and j", house.some(2, 0, 513), 2);
    Houses.isTrueWhere("some of a and j", house, 2, row -> bit(row, 'b') || bit(row, 'c'));
    Check.same("some of all", house.some(2, 0, 1023), 0);
    Check.same("some of all is everywhere", house.models(2), 1024);
    Check.same("some of all of nothing", house.some(3, 4, 1023), 0);
    Check.same("some of all of nothing is nowhere", house.models(3), 0);
    Check.same("some of itself", house.some(1, 1, 64), 0);
    Check.same("some of itself is everywhere", house.models(1), 1024);
    for (int slot : Houses.NO_SLOTS) {
      Check.fails("some " + slot, house, IndexOutOfBoundsException.class,
          () -> house.some(slot, 0, 1));
      Check.fails("some of " + slot, house, IndexOutOfBoundsException.class,
          () -> house.some(0, slot, 1024));
    }
    for (int set : Houses.NO_SETS) {
      Check.fails("some of the set " + set, house, IllegalArgumentException.class,
          () -> house.some(2, 0, set));
    }
  }

  /** Promise 13. */
  private static void each() {
    House house = Houses.with("(a|b|!j)&(c|j)", "a|g");
    Check.same("each of no variable", house.each(2, 0, 0), house.nodes(0));
    Check.same("each of no variable is the same", house.isSame(0, 2), true);
    Check.same("each of j", house.each(2, 0, 512), 3);
    Houses.isTrueWhere("each of j", house, 2, row ->
        (bit(row, 'a') || bit(row, 'b')) && bit(row, 'c'));
    Check.same("each of a and j", house.each(2, 0, 513), 2);
    Houses.isTrueWhere("each of a and j", house, 2, row -> bit(row, 'b') && bit(row, 'c'));
    Check.same("each of all", house.each(2, 0, 1023), 0);
    Check.same("each of all is nowhere", house.models(2), 0);
    house.table(3, -1L);
    Check.same("each of all of everything", house.each(3, 3, 1023), 0);
    Check.same("each of all of everything is everywhere", house.models(3), 1024);
    Check.same("each of itself", house.each(1, 1, 64), 1);
    Houses.isTrueWhere("each of itself", house, 1, row -> bit(row, 'a'));
    for (int slot : Houses.NO_SLOTS) {
      Check.fails("each " + slot, house, IndexOutOfBoundsException.class,
          () -> house.each(slot, 0, 1));
      Check.fails("each of " + slot, house, IndexOutOfBoundsException.class,
          () -> house.each(0, slot, -1));
    }
    for (int set : Houses.NO_SETS) {
      Check.fails("each of the set " + set, house, IllegalArgumentException.class,
          () -> house.each(2, 0, set));
    }
  }

  /** Promise 14. */
  private static void nodes() {
    House house = Houses.with("a&b|c&d|e&f", "a^b^c", "1", "0", "j", "a&c|b&d|!a&c&d");
    Check.same("nodes of three pairs", house.nodes(0), 6);
    Check.same("nodes of parity", house.nodes(1), 5);
    Check.same("nodes of what is everywhere", house.nodes(2), 0);
    Check.same("nodes of what is nowhere", house.nodes(3), 0);
    Check.same("nodes of a letter", house.nodes(4), 1);
    // To a, c, e, b, d, f: each way to set the first three leaves another part.
    house.swap(1);
    house.swap(3);
    house.swap(2);
    Check.same("nodes of three pairs that stand apart", house.nodes(0), 14);
    Check.same("nodes of parity stay", house.nodes(1), 5);
    for (int slot : Houses.NO_SLOTS) {
      Check.fails("nodes " + slot, house, IndexOutOfBoundsException.class,
          () -> house.nodes(slot));
    }
  }

  /** Promise 15. */
  private static void allNodes() {
    House house = new House();
    Check.same("nodes of all, of nothing", house.allNodes(), 0);
    Houses.read(house, 0, "a&b");
    Houses.read(house, 3, "b");
    Houses.read(house, 7, "a&b");
    Check.same("like parts are counted once", house.allNodes(), 2);
    Houses.read(house, 4, "!b");
    Check.same("a contrary is unlike", house.allNodes(), 3);
    house.table(5, -1L);
    Check.same("what is everywhere has none", house.allNodes(), 3);
    Houses.read(house, 6, "a&c|!a&b");
    Check.same("a part of one can be one of another", house.allNodes(), 5);
    house.erase();
    Check.same("it is no more after the text is gone", house.allNodes(), 5);
  }

  /** The most nodes that eight functions can have, by any number of swaps. */
  private static void manyNodes() {
    House house = new House();
    PlainHouse plain = new PlainHouse();
    long state = 12345;
    for (int slot = 0; slot < 8; slot++) {
      house.join(0, 0, 0, '-');
      plain.join(0, 0, 0, '-');
      for (int added = 0; added < 40; added++) {
        state = state * 6364136223846793005L + 1442695040888963407L;
        int set = (int) (state >>> 54);
        house.add(0, set);
        plain.add(0, set);
      }
      house.ofFamily(slot, 0);
      plain.ofFamily(slot, 0);
      house.put(slot, slot, 0, (slot + 7) % 8);
      plain.put(slot, slot, 0, (slot + 7) % 8);
      house.make(slot, slot, (slot + 5) % 8, '^');
      plain.make(slot, slot, (slot + 5) % 8, '^');
    }
    Check.same("many nodes", house.allNodes(), plain.allNodes());
    for (int place = 0; place < 9; place++) {
      int at = place;
      Check.same("many nodes, swap " + place, house.swap(at), plain.swap(at));
    }
    Check.same("many nodes are sound", house.isSound(), true);
  }

  /** Promise 16. */
  private static void hangs() {
    House house = Houses.with("a&b|a&!b", "j^f^c", "a&b|c&d|e&f|g&h|i&j", "1");
    Check.same("hangs on a", house.hangs(0), 1);
    Check.same("hangs on c, f and j", house.hangs(1), 4 + 32 + 512);
    Check.same("hangs on all", house.hangs(2), 1023);
    Check.same("hangs on nothing", house.hangs(3), 0);
    Check.same("hangs at first", house.hangs(7), 0);
    Houses.family(house, 0, 777);
    house.ofFamily(4, 0);
    Check.same("one model hangs on all", house.hangs(4), 1023);
    for (int slot : Houses.NO_SLOTS) {
      Check.fails("hangs " + slot, house, IndexOutOfBoundsException.class,
          () -> house.hangs(slot));
    }
  }

  /** Promises 17 and 18. */
  private static void isSameAndUnder() {
    House house = Houses.with("a&j", "a", "a&j|a&j&b", "j", "1");
    Check.same("same", house.isSame(0, 2), true);
    Check.same("same as itself", house.isSame(3, 3), true);
    Check.same("not the same", house.isSame(0, 1), false);
    Check.same("not the same in the last rows alone", house.isSame(5, 0), false);
    Check.same("under", house.isUnder(0, 1), true);
    Check.same("not under", house.isUnder(1, 0), false);
    Check.same("under itself", house.isUnder(1, 1), true);
    Check.same("nowhere is under nowhere", house.isUnder(5, 6), true);
    Check.same("nowhere is under all", house.isUnder(5, 0), true);
    Check.same("all is not under nowhere", house.isUnder(4, 5), false);
    Check.same("neither is under the other one", house.isUnder(1, 3), false);
    for (int slot : Houses.NO_SLOTS) {
      Check.fails("isSame " + slot, house, IndexOutOfBoundsException.class,
          () -> house.isSame(slot, 0));
      Check.fails("isSame and " + slot, house, IndexOutOfBoundsException.class,
          () -> house.isSame(0, slot));
      Check.fails("isUnder " + slot, house, IndexOutOfBoundsException.class,
          () -> house.isUnder(slot, 0));
      Check.fails("isUnder and " + slot, house, IndexOutOfBoundsException.class,
          () -> house.isUnder(0, slot));
    }
    Houses.family(house, 0, 1023);
    Houses.family(house, 1, 1023, 0);
    house.ofFamily(0, 0);
    house.ofFamily(1, 1);
    Check.same("not the same in one row alone", house.isSame(0, 1), false);
    Check.same("under but for none", house.isUnder(0, 1), true);
    Check.same("not under but for one", house.isUnder(1, 0), false);
  }

  /** Promise 19. */
  private static void isSymmetric() {
    House house = Houses.with("a&b|c", "a&j|b", "d&!h", "0", "g^i^c");
    Check.same("a and b", house.isSymmetric(0, 0, 1), true);
    Check.same("b and a", house.isSymmetric(0, 1, 0), true);
    Check.same("a and c", house.isSymmetric(0, 0, 2), false);
    Check.same("one that it does not hang on, and one that it does", house.isSymmetric(0, 9, 0),
        false);
    Check.same("two that it does not hang on", house.isSymmetric(0, 8, 9), true);
    Check.same("a and j", house.isSymmetric(1, 0, 9), true);
    Check.same("j and b", house.isSymmetric(1, 9, 1), false);
    Check.same("d and h", house.isSymmetric(2, 3, 7), false);
    Check.same("the same one", house.isSymmetric(2, 3, 3), true);
    Check.same("what is nowhere", house.isSymmetric(3, 0, 9), true);
    Check.same("g and i", house.isSymmetric(4, 6, 8), true);
    Check.same("c and i", house.isSymmetric(4, 2, 8), true);
    for (int slot : Houses.NO_SLOTS) {
      Check.fails("isSymmetric " + slot, house, IndexOutOfBoundsException.class,
          () -> house.isSymmetric(slot, 0, 10));
    }
    for (int variable : Houses.NO_VARIABLES) {
      Check.fails("isSymmetric in " + variable, house, IllegalArgumentException.class,
          () -> house.isSymmetric(0, variable, 1));
      Check.fails("isSymmetric and " + variable, house, IllegalArgumentException.class,
          () -> house.isSymmetric(0, 1, variable));
      Check.fails("isSymmetric in twice " + variable, house, IllegalArgumentException.class,
          () -> house.isSymmetric(0, variable, variable));
    }
  }

  /** Promise 20. */
  private static void sort() {
    House house = Houses.with("a&!b|a&c", "h^i", "!j|g", "1");
    Check.same("it hangs on a upwards", house.sort(0, 0), '+');
    Check.same("it hangs on b downwards", house.sort(0, 1), '-');
    Check.same("it hangs on c upwards", house.sort(0, 2), '+');
    Check.same("it does not hang on d", house.sort(0, 3), '0');
    Check.same("it hangs on h both ways", house.sort(1, 7), '*');
    Check.same("it hangs on i both ways", house.sort(1, 8), '*');
    Check.same("it hangs on j downwards", house.sort(2, 9), '-');
    Check.same("it hangs on g upwards", house.sort(2, 6), '+');
    Check.same("all hangs on nothing", house.sort(3, 9), '0');
    for (int slot : Houses.NO_SLOTS) {
      Check.fails("sort " + slot, house, IndexOutOfBoundsException.class,
          () -> house.sort(slot, 10));
    }
    for (int variable : Houses.NO_VARIABLES) {
      Check.fails("sort by " + variable, house, IllegalArgumentException.class,
          () -> house.sort(0, variable));
    }
  }

  public static void main(String[] args) {
    table();
    value();
    make();
    choose();
    fix();
    put();
    some();
    each();
    nodes();
    allNodes();
    manyNodes();
    hangs();
    isSameAndUnder();
    isSymmetric();
    sort();
    Check.end("FunctionsTest");
  }
}
