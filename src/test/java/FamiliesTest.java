import java.util.ArrayList;
import java.util.List;
import java.util.NoSuchElementException;

/** Promises 40 to 50: families of sets. */
public final class FamiliesTest {
  private FamiliesTest() {}

  private static List<Integer> list(int... sets) {
    List<Integer> list = new ArrayList<>();
    for (int set : sets) {
      list.add(set);
    }
    return list;
  }

  private static void holds(String what, House house, int slot, int... sets) {
    Check.same(what, Houses.sets(house, slot), list(sets));
  }

  /** Promise 40. */
  private static void add() {
    House house = new House();
    Check.same("add", house.add(0, 5), 1);
    Check.same("add the empty set", house.add(0, 0), 2);
    Check.same("add all things", house.add(0, 1023), 3);
    Check.same("add what is in it", house.add(0, 5), 3);
    Check.same("add to another one", house.add(5, 7), 1);
    holds("what was added", house, 0, 0, 5, 1023);
    Check.same("add is kept", house.undo(), 105);
    Check.same("add of what is in it is kept too", house.undo(), 100);
    holds("which changes nothing", house, 0, 0, 5, 1023);
    Check.same("add of all things is kept", house.undo(), 100);
    holds("which is gone", house, 0, 0, 5);
    for (int slot : Houses.NO_FAMILIES) {
      Check.fails("add to " + slot, house, IndexOutOfBoundsException.class,
          () -> house.add(slot, 1024));
    }
    for (int set : Houses.NO_SETS) {
      Check.fails("add of " + set, house, IllegalArgumentException.class,
          () -> house.add(0, set));
    }
    holds("which adds nothing", house, 0, 0, 5);
  }

  /** Promise 41. */
  private static void join() {
    House house = new House();
    Houses.family(house, 0, 1, 2, 12);
    Houses.family(house, 1, 2, 5, 12, 0);
    Check.same("join |", house.join(2, 0, 1, '|'), 5);
    holds("join |", house, 2, 0, 1, 2, 5, 12);
    Check.same("join &", house.join(2, 0, 1, '&'), 2);
    holds("join &", house, 2, 2, 12);
    Check.same("join -", house.join(2, 0, 1, '-'), 1);
    holds("join -", house, 2, 1);
    Check.same("join - the other way", house.join(2, 1, 0, '-'), 2);
    holds("join - the other way", house, 2, 0, 5);
    Check.same("join *", house.join(2, 0, 1, '*'), 8);
    holds("join *", house, 2, 1, 2, 3, 5, 7, 12, 13, 14);
    Houses.family(house, 3, 0);
    Check.same("join * of the empty set", house.join(3, 3, 1, '*'), 4);
    holds("join * of the empty set", house, 3, 0, 2, 5, 12);
    Check.same("join * of none", house.join(3, 4, 1, '*'), 0);
    Check.same("join * by none", house.join(3, 1, 4, '*'), 0);
    Check.same("join * of itself", house.join(0, 0, 0, '*'), 6);
    holds("join * of itself", house, 0, 1, 2, 3, 12, 13, 14);
    Check.same("join - of itself", house.join(0, 0, 0, '-'), 0);
    house.table(0, -1L);
    house.ofFunction(4, 0);
    Check.same("join * of all by all", house.join(5, 4, 4, '*'), 1024);
    wrongJoins(house);
  }

  private static void wrongJoins(House house) {
    for (int slot : Houses.NO_FAMILIES) {
      Check.fails("join into " + slot, house, IndexOutOfBoundsException.class,
          () -> house.join(slot, 0, 1, '?'));
      Check.fails("join of " + slot, house, IndexOutOfBoundsException.class,
          () -> house.join(0, slot, 1, '|'));
      Check.fails("join with " + slot, house, IndexOutOfBoundsException.class,
          () -> house.join(0, 1, slot, '^'));
    }
    for (char how : new char[] {'^', '>', '+', ' ', 0, 'a', (char) 65535}) {
      Check.fails("join by " + (int) how, house, IllegalArgumentException.class,
          () -> house.join(0, 1, 2, how));
    }
  }

  /** Promise 42. */
  private static void least() {
    House house = new House();
    Houses.family(house, 0, 3, 1, 6, 7, 1020, 1023, 512);
    Check.same("least", house.least(1, 0), 3);
    holds("the least sets", house, 1, 1, 6, 512);
    holds("the family stays", house, 0, 1, 3, 6, 7, 512, 1020, 1023);
    Check.same("least of itself", house.least(0, 0), 3);
    holds("the least sets of itself", house, 0, 1, 6, 512);
    house.add(0, 0);
    Check.same("least with the empty set", house.least(0, 0), 1);
    holds("which is less than all", house, 0, 0);
    Check.same("least of none", house.least(2, 3), 0);
    for (int slot : Houses.NO_FAMILIES) {
      Check.fails("least into " + slot, house, IndexOutOfBoundsException.class,
          () -> house.least(slot, 0));
      Check.fails("least of " + slot, house, IndexOutOfBoundsException.class,
          () -> house.least(0, slot));
    }
  }

  /** Promise 43. */
  private static void hitting() {
    House house = new House();
    Houses.family(house, 0, 3, 6, 3 + 512);
    Check.same("hitting", house.hitting(1, 0), 2);
    holds("b, or a and c", house, 1, 2, 5);
    Check.same("hitting of the hitting ones", house.hitting(2, 1), 2);
    holds("the least sets again", house, 2, 3, 6);
    Check.same("hitting of none", house.hitting(2, 5), 1);
    holds("the empty set hits all of none", house, 2, 0);
    Check.same("hitting of the empty set", house.hitting(3, 2), 0);
    holds("nothing hits the empty set", house, 3);
    house.add(0, 0);
    Check.same("hitting with the empty set", house.hitting(3, 0), 0);
    Houses.family(house, 4, 3, 12, 48, 192, 768);
    Check.same("hitting of five pairs", house.hitting(4, 4), 32);
    Check.same("the first one", house.setAt(4, 0), 341);
    Check.same("the last one", house.setAt(4, 31), 682);
    for (int slot : Houses.NO_FAMILIES) {
      Check.fails("hitting into " + slot, house, IndexOutOfBoundsException.class,
          () -> house.hitting(slot, 0));
      Check.fails("hitting of " + slot, house, IndexOutOfBoundsException.class,
          () -> house.hitting(0, slot));
    }
  }

  /** Promise 44. */
  private static void setAt() {
    House house = new House();
    Houses.family(house, 0, 1023, 512, 0, 65, 64, 63);
    holds("by rising numbers", house, 0, 0, 63, 64, 65, 512, 1023);
    Check.same("setAt 4", house.setAt(0, 4), 512);
    house.sift();
    Check.same("the order of the house is not theirs", house.setAt(0, 4), 512);
    for (int slot : Houses.NO_FAMILIES) {
      Check.fails("setAt " + slot, house, IndexOutOfBoundsException.class,
          () -> house.setAt(slot, -1));
    }
    for (int index : new int[] {-1, 6, 1024, Integer.MIN_VALUE, Integer.MAX_VALUE}) {
      Check.fails("setAt index " + index, house, NoSuchElementException.class,
          () -> house.setAt(0, index));
    }
    Check.fails("setAt of none", house, NoSuchElementException.class, () -> house.setAt(1, 0));
  }

  /** Promise 45. */
  private static void familyNodes() {
    House house = new House();
    Check.same("nodes of a family without sets", house.familyNodes(0), 0);
    house.add(0, 0);
    Check.same("nodes of the empty set alone", house.familyNodes(0), 0);
    house.add(0, 512);
    Check.same("nodes of the empty set and another one", house.familyNodes(0), 1);
    Houses.family(house, 1, 1, 2, 3);
    Check.same("nodes of a, b and both", house.familyNodes(1), 3);
    Houses.family(house, 2, 1023);
    Check.same("nodes of all things", house.familyNodes(2), 10);
    house.table(0, -1L);
    house.ofFunction(3, 0);
    Check.same("nodes of all sets", house.familyNodes(3), 10);
    Houses.family(house, 4, 5, 9, 6, 10);
    Check.same("nodes of one of a, b, and one of c, d", house.familyNodes(4), 4);
    house.swap(1);
    Check.same("nodes if they stand apart", house.familyNodes(4), 6);
    for (int slot : Houses.NO_FAMILIES) {
      Check.fails("familyNodes " + slot, house, IndexOutOfBoundsException.class,
          () -> house.familyNodes(slot));
    }
  }

  /** Promise 46. */
  private static void edge() {
    House house = new House();
    Check.same("edge", house.edge(0, 0, 6), 1);
    Check.same("edge of another thing", house.edge(9, 6, 0), 2);
    Check.same("edge in place of what it was", house.edge(0, 1, 2), 2);
    Check.same("edge to none", house.edge(0, 4, 4), 1);
    Check.same("edge to none once more", house.edge(0, 0, 0), 1);
    for (int thing : Houses.NO_VARIABLES) {
      Check.fails("edge of " + thing, house, IllegalArgumentException.class,
          () -> house.edge(thing, 0, 1));
    }
    for (int corner : Houses.NO_CORNERS) {
      Check.fails("edge from " + corner, house, IllegalArgumentException.class,
          () -> house.edge(9, corner, 1));
      Check.fails("edge to " + corner, house, IllegalArgumentException.class,
          () -> house.edge(9, 1, corner));
      Check.fails("edge from and to " + corner, house, IllegalArgumentException.class,
          () -> house.edge(9, corner, corner));
    }
    Check.same("edges stay then", house.ways(0, 0, 6), 1);
    holds("the way of 9", house, 0, 512);
    Check.same("edges are not kept", house.undo(), 100);
    Check.same("and stay at undo", house.ways(0, 6, 0), 1);
  }

  /** Promise 47. */
  private static void ways() {
    House house = new House();
    Check.same("ways without any", house.ways(0, 0, 1), 0);
    Check.same("ways from a corner to itself", house.ways(0, 3, 3), 1);
    holds("the empty set alone", house, 0, 0);
    house.edge(0, 0, 1);
    house.edge(1, 1, 2);
    house.edge(2, 2, 0);
    Check.same("ways about a triangle", house.ways(0, 0, 2), 2);
    holds("short, and long", house, 0, 3, 4);
    Check.same("ways back", house.ways(0, 2, 0), 2);
    Check.same("ways from its corner to itself", house.ways(0, 2, 2), 1);
    holds("the empty set alone", house, 0, 0);
    house.edge(3, 0, 2);
    house.edge(4, 2, 3);
    Check.same("ways to a corner beside it", house.ways(1, 0, 3), 3);
    holds("ways to a corner beside it", house, 1, 16 + 3, 16 + 4, 16 + 8);
    Check.same("ways to a corner that nothing comes to", house.ways(1, 0, 6), 0);
    for (int thing = 0; thing < 10; thing++) {
      house.edge(thing, thing % 6, thing % 6 + 1);
    }
    Check.same("ways through all corners", house.ways(2, 0, 6), 16);
    Check.same("the first one", house.setAt(2, 0), 63);
    Check.same("the last one", house.setAt(2, 15), 1023 - 15);
    manyWays(house);
    for (int slot : Houses.NO_FAMILIES) {
      Check.fails("ways " + slot, house, IndexOutOfBoundsException.class,
          () -> house.ways(slot, -1, 7));
    }
    for (int corner : Houses.NO_CORNERS) {
      Check.fails("ways from " + corner, house, IllegalArgumentException.class,
          () -> house.ways(0, corner, 0));
      Check.fails("ways to " + corner, house, IllegalArgumentException.class,
          () -> house.ways(0, 0, corner));
      Check.fails("ways from and to " + corner, house, IllegalArgumentException.class,
          () -> house.ways(0, corner, corner));
    }
  }

  private static void manyWays(House house) {
    int thing = 0;
    for (int from = 0; from < 5; from++) {
      for (int to = from + 1; to < 5; to++) {
        house.edge(thing, from, to);
        thing++;
      }
    }
    // 1 + 3 + 3 * 2 + 3 * 2 * 1 ways lead by none to three of the other corners.
    Check.same("ways among five corners", house.ways(3, 0, 4), 16);
    for (int same = 0; same < 10; same++) {
      house.edge(same, 5, 2);
    }
    Check.same("ten ways side by side", house.ways(3, 2, 5), 10);
    Check.same("no corner twice", house.ways(3, 2, 2), 1);
  }

  /** Promise 48. */
  private static void pairings() {
    House house = new House();
    Check.same("pairings without ways", house.pairings(0), 1);
    holds("no way at all", house, 0, 0);
    house.edge(0, 0, 1);
    house.edge(1, 1, 2);
    house.edge(9, 2, 3);
    Check.same("pairings of a line", house.pairings(0), 5);
    holds("pairings of a line", house, 0, 0, 1, 2, 512, 513);
    house.edge(1, 1, 1);
    Check.same("pairings without the middle one", house.pairings(0), 4);
    house.edge(9, 1, 0);
    Check.same("pairings side by side", house.pairings(0), 3);
    house.edge(5, 4, 5);
    house.edge(6, 2, 6);
    Check.same("pairings of three", house.pairings(5), 12);
    for (int slot : Houses.NO_FAMILIES) {
      Check.fails("pairings " + slot, house, IndexOutOfBoundsException.class,
          () -> house.pairings(slot));
    }
  }

  /** Promises 49 and 50. */
  private static void ofFamilyAndOfFunction() {
    House house = new House();
    Houses.family(house, 0, 0, 3, 1023);
    Check.same("ofFamily", house.ofFamily(2, 0), house.nodes(2));
    Houses.isTrueWhere("ofFamily", house, 2, row -> row == 0 || row == 3 || row == 1023);
    Check.same("ofFamily without sets", house.ofFamily(2, 5), 0);
    Check.same("which is nowhere", house.models(2), 0);
    Houses.read(house, 7, "a&b&c&d&e&f&g&h&(i|j)");
    Check.same("ofFunction", house.ofFunction(5, 7), 3);
    holds("ofFunction", house, 5, 511, 767, 1023);
    Check.same("ofFunction of nowhere", house.ofFunction(5, 6), 0);
    Check.same("ofFamily is kept", house.undo(), 105);
    holds("ofFunction is kept", house, 5, 511, 767, 1023);
    house.table(0, -1L);
    Check.same("ofFunction of everywhere", house.ofFunction(4, 0), 1024);
    Check.same("ofFamily of all sets", house.ofFamily(1, 4), 0);
    Check.same("is everywhere", house.isSame(0, 1), true);
    for (int slot : Houses.NO_SLOTS) {
      Check.fails("ofFamily into " + slot, house, IndexOutOfBoundsException.class,
          () -> house.ofFamily(slot, 0));
      Check.fails("ofFunction of " + slot, house, IndexOutOfBoundsException.class,
          () -> house.ofFunction(0, slot));
    }
    for (int family : Houses.NO_FAMILIES) {
      Check.fails("ofFamily of " + family, house, IndexOutOfBoundsException.class,
          () -> house.ofFamily(0, family));
      Check.fails("ofFunction into " + family, house, IndexOutOfBoundsException.class,
          () -> house.ofFunction(family, 0));
    }
    Check.same("slot 7 is one of functions", house.ofFamily(7, 0), house.nodes(7));
  }

  public static void main(String[] args) {
    add();
    join();
    least();
    hitting();
    setAt();
    familyNodes();
    edge();
    ways();
    pairings();
    ofFamilyAndOfFunction();
    Check.end("FamiliesTest");
  }
}
