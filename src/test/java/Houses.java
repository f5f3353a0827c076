import java.util.ArrayList;
import java.util.List;
import java.util.function.IntPredicate;

/** What tests do with a house again and again. */
final class Houses {
  static final int[] NO_SLOTS = {-1, 8, 100, Integer.MIN_VALUE, Integer.MAX_VALUE};
  static final int[] NO_FAMILIES = {-1, 6, 7, 100, Integer.MIN_VALUE, Integer.MAX_VALUE};
  static final int[] NO_VARIABLES = {-1, 10, 31, 32, Integer.MIN_VALUE, Integer.MAX_VALUE};
  static final int[] NO_SETS = {-1, 1024, 2048, Integer.MIN_VALUE, Integer.MAX_VALUE};
  static final int[] NO_CORNERS = {-1, 7, 32, Integer.MIN_VALUE, Integer.MAX_VALUE};

  private Houses() {}

  /** A house whose first slots hold these formulas' functions. */
  static House with(String... formulas) {
    House house = new House();
    for (int slot = 0; slot < formulas.length; slot++) {
      int nodes = read(house, slot, formulas[slot]);
      if (nodes < 0) {
        throw new AssertionError("no formula: " + formulas[slot]);
      }
    }
    return house;
  }

  static int read(House house, int slot, String formula) {
    house.erase();
    type(house, formula);
    return house.read(slot);
  }

  /** A text with a fault: the answer tells it, the text is gone, and the slot stays. */
  static void fault(House house, String signs, int place) {
    house.erase();
    long before = house.checksum();
    type(house, signs);
    Check.same("read " + signs, house.read(0), -1 - place);
    Check.same("what is there after the fault in " + signs, house.checksum(), before);
  }

  static void type(House house, String signs) {
    for (char sign : signs.toCharArray()) {
      house.type(sign);
    }
  }

  static String text(House house) {
    StringBuilder text = new StringBuilder();
    for (int place = 0; place < 1000; place++) {
      try {
        text.append(house.signAt(place));
      } catch (IndexOutOfBoundsException end) {
        break;
      }
    }
    return text.toString();
  }

  /** Looks at a function in all rows. */
  static void isTrueWhere(String what, House house, int slot, IntPredicate due) {
    int wrong = 0;
    boolean[] rows = house.rows(slot);
    for (int row = 0; row < rows.length; row++) {
      if (rows[row] != due.test(row)) {
        wrong++;
      }
    }
    Check.same(what + ", rows that are wrong", wrong, 0);
  }

  static boolean bit(int row, char letter) {
    return (row >> (letter - 'a') & 1) == 1;
  }

  /** Lets a slot become a set of states. */
  static void states(House house, int slot, int... states) {
    long bits = 0;
    for (int state : states) {
      bits |= 1L << state | 1L << (state + 32);
    }
    house.table(slot, bits);
  }

  static List<Integer> statesOf(House house, int slot) {
    List<Integer> states = new ArrayList<>();
    for (int state = 0; state < 32; state++) {
      if (house.value(slot, state)) {
        states.add(state);
      }
    }
    return states;
  }

  /** Lets a slot become a step, told by pairs of a state and the next one; uses the family 5. */
  static void step(House house, int slot, int... pairs) {
    int[] rows = new int[pairs.length / 2];
    for (int i = 0; i < rows.length; i++) {
      rows[i] = pairs[2 * i] | pairs[2 * i + 1] << 5;
    }
    family(house, 5, rows);
    house.ofFamily(slot, 5);
  }

  static void family(House house, int slot, int... sets) {
    house.join(slot, slot, slot, '-');
    for (int set : sets) {
      house.add(slot, set);
    }
  }

  static List<Integer> sets(House house, int slot) {
    List<Integer> sets = new ArrayList<>();
    for (int index = 0; index < 1025; index++) {
      try {
        sets.add(house.setAt(slot, index));
      } catch (java.util.NoSuchElementException end) {
        break;
      }
    }
    return sets;
  }

  static List<Integer> order(House house) {
    Integer[] order = new Integer[10];
    for (int variable = 0; variable < 10; variable++) {
      order[house.placeOf(variable)] = variable;
    }
    return List.of(order);
  }
}
