import java.util.ArrayList;
import java.util.List;
import java.util.NoSuchElementException;

/** Promises 36 to 39: steps of a machine. */
public final class MachinesTest {
  private MachinesTest() {}

  /** Slot 0 a step, 1 and 2 sets of states, 6 no set of states, 7 what is nowhere. */
  private static House machine(int... pairs) {
    House house = new House();
    Houses.step(house, 0, pairs);
    Houses.read(house, 6, "a&f");
    return house;
  }

  private static List<Integer> way(House house) {
    List<Integer> way = new ArrayList<>();
    for (int index = 0; index <= house.steps(0, 1, 2); index++) {
      way.add(house.stateAt(0, 1, 2, index));
    }
    return way;
  }

  /** Promise 36. */
  private static void image() {
    House house = machine(0, 1, 1, 2, 2, 0, 3, 3, 3, 31, 31, 4);
    Houses.states(house, 1, 0, 3);
    Check.same("image", house.image(2, 0, 1), house.nodes(2));
    Check.same("image of 0 and 3", Houses.statesOf(house, 2), List.of(1, 3, 31));
    Check.same("it hangs on a to e alone", house.hangs(2) & 0x3E0, 0);
    Houses.isTrueWhere("image in all rows", house, 2, row ->
        row % 32 == 1 || row % 32 == 3 || row % 32 == 31);
    house.image(2, 0, 2);
    Check.same("image of 1, 3 and 31 into itself", Houses.statesOf(house, 2),
        List.of(2, 3, 4, 31));
    Houses.states(house, 3, 4, 5);
    Check.same("image of what leads nowhere", house.image(3, 0, 3), 0);
    Check.same("which is nowhere", house.models(3), 0);
    Check.same("image of no state", house.image(4, 0, 7), 0);
    Houses.states(house, 1, 31);
    Check.same("image of one", house.image(0, 0, 1), 5);
    Check.same("into the step", Houses.statesOf(house, 0), List.of(4));
    wrong("image", house, (slot, step, from) -> house.image(slot, step, from));
  }

  /** Promise 37. */
  private static void reach() {
    House house = machine(0, 1, 1, 2, 2, 0, 3, 3, 9, 10, 10, 31, 31, 9, 31, 5);
    Houses.states(house, 1, 1);
    house.reach(2, 0, 1);
    Check.same("reach from 1", Houses.statesOf(house, 2), List.of(0, 1, 2));
    Houses.states(house, 1, 9, 20);
    Check.same("reach", house.reach(2, 0, 1), house.nodes(2));
    Check.same("reach from 9 and 20", Houses.statesOf(house, 2), List.of(5, 9, 10, 20, 31));
    Check.same("reach from none", house.reach(2, 0, 7), 0);
    Houses.states(house, 1, 4);
    Check.same("reach by no steps", house.reach(2, 0, 1), 5);
    Check.same("is where it begins", Houses.statesOf(house, 2), List.of(4));
    int[] line = new int[62];
    for (int state = 0; state < 31; state++) {
      line[2 * state] = 31 - state;
      line[2 * state + 1] = 30 - state;
    }
    Houses.step(house, 0, line);
    Houses.states(house, 1, 31);
    Check.same("reach down a line", house.reach(1, 0, 1), 0);
    Check.same("which is all", house.models(1), 1024);
    wrong("reach", house, (slot, step, from) -> house.reach(slot, step, from));
  }

  private interface ThreeSlots {
    int run(int slot, int step, int from);
  }

  private static void wrong(String what, House house, ThreeSlots call) {
    for (int slot : Houses.NO_SLOTS) {
      Check.fails(what + " " + slot, house, IndexOutOfBoundsException.class,
          () -> call.run(slot, 0, 6));
      Check.fails(what + " by " + slot, house, IndexOutOfBoundsException.class,
          () -> call.run(0, slot, 6));
      Check.fails(what + " from " + slot, house, IndexOutOfBoundsException.class,
          () -> call.run(0, 0, slot));
    }
    Check.fails(what + " from no states", house, UnsupportedOperationException.class,
        () -> call.run(0, 0, 6));
    for (char letter = 'f'; letter <= 'j'; letter++) {
      Houses.read(house, 6, "" + letter);
      Check.fails(what + " from " + letter, house, UnsupportedOperationException.class,
          () -> call.run(0, 0, 6));
    }
    Houses.read(house, 6, "a&b&c&d&e|f&a&!a");
    Check.same(what + " from a to e is refused",
        Check.outcome(() -> call.run(5, 0, 6)).startsWith("throws"), false);
  }

  /** Promises 38 and 39. */
  private static void steps() {
    House house = machine(0, 5, 0, 4, 5, 1, 4, 1, 0, 2, 2, 3, 1, 6, 3, 3, 8, 1, 9, 0);
    Houses.states(house, 1, 0);
    Houses.states(house, 2, 1);
    Check.same("steps", house.steps(0, 1, 2), 2);
    Check.same("the first way", way(house), List.of(0, 4, 1));
    Houses.states(house, 2, 6, 3);
    Check.same("steps to the nearer one", house.steps(0, 1, 2), 2);
    Check.same("the way there", way(house), List.of(0, 2, 3));
    Houses.states(house, 1, 5, 8, 9);
    Houses.states(house, 2, 6);
    Check.same("of several to begin with", way(house), List.of(5, 1, 6));
    Houses.states(house, 1, 9, 12, 6, 1);
    Check.same("none are needed", house.steps(0, 1, 2), 0);
    Check.same("the way of none", way(house), List.of(6));
    Houses.states(house, 2, 6, 1, 12);
    Check.same("the least one to begin and end with", way(house), List.of(1));
    Houses.states(house, 1, 3);
    Check.same("no steps lead there", house.steps(0, 1, 2), -1);
    Check.same("none from nowhere", house.steps(0, 7, 2), -1);
    Check.same("none to nowhere", house.steps(0, 1, 7), -1);
    Check.same("none from nowhere to nowhere", house.steps(0, 7, 7), -1);
    Check.same("no steps by nothing", house.steps(7, 1, 2), -1);
    Check.same("but none are needed by nothing", house.steps(7, 1, 1), 0);
    for (int index : new int[] {-1, 0, 1, Integer.MIN_VALUE, Integer.MAX_VALUE}) {
      Check.fails("stateAt " + index + " of no way", house, NoSuchElementException.class,
          () -> house.stateAt(0, 1, 2, index));
    }
    Houses.states(house, 1, 0);
    Houses.states(house, 2, 1);
    for (int index : new int[] {-1, 3, 4, 32, Integer.MIN_VALUE, Integer.MAX_VALUE}) {
      Check.fails("stateAt " + index + " of two steps", house, NoSuchElementException.class,
          () -> house.stateAt(0, 1, 2, index));
    }
  }

  private static void longWay() {
    int[] line = new int[62];
    for (int state = 0; state < 31; state++) {
      line[2 * state] = state;
      line[2 * state + 1] = state + 1;
    }
    House house = machine(line);
    Houses.states(house, 1, 0);
    Houses.states(house, 2, 31);
    Check.same("the longest way", house.steps(0, 1, 2), 31);
    Check.same("its first state", house.stateAt(0, 1, 2, 0), 0);
    Check.same("its 17th state", house.stateAt(0, 1, 2, 17), 17);
    Check.same("its last state", house.stateAt(0, 1, 2, 31), 31);
    Check.fails("stateAt 32 of the longest way", house, NoSuchElementException.class,
        () -> house.stateAt(0, 1, 2, 32));
    Check.same("not backwards", house.steps(0, 2, 1), -1);
    Check.same("nothing is kept", house.undo(), 2);
  }

  /** The way that is told goes by the numbers of its states, not by those nearest to its end. */
  private static void waysThatPart() {
    House house = machine(1, 20, 20, 3, 2, 4, 4, 3, 1, 7, 7, 3, 7, 8, 8, 3, 0, 30, 30, 29);
    Houses.states(house, 1, 0, 1, 2);
    Houses.states(house, 2, 3);
    Check.same("the first state counts first", way(house), List.of(1, 7, 3));
    Houses.states(house, 1, 2, 0);
    Check.same("0 leads nowhere", way(house), List.of(2, 4, 3));
  }

  private static void wrongSteps() {
    House house = machine(0, 1);
    Houses.states(house, 1, 0);
    Houses.states(house, 2, 1);
    for (int slot : Houses.NO_SLOTS) {
      Check.fails("steps by " + slot, house, IndexOutOfBoundsException.class,
          () -> house.steps(slot, 6, 6));
      Check.fails("steps from " + slot, house, IndexOutOfBoundsException.class,
          () -> house.steps(0, slot, 6));
      Check.fails("steps to " + slot, house, IndexOutOfBoundsException.class,
          () -> house.steps(0, 6, slot));
      Check.fails("stateAt by " + slot, house, IndexOutOfBoundsException.class,
          () -> house.stateAt(slot, 6, 6, -1));
      Check.fails("stateAt from " + slot, house, IndexOutOfBoundsException.class,
          () -> house.stateAt(0, slot, 6, -1));
      Check.fails("stateAt to " + slot, house, IndexOutOfBoundsException.class,
          () -> house.stateAt(0, 6, slot, -1));
    }
    for (char letter = 'f'; letter <= 'j'; letter++) {
      Houses.read(house, 6, "a&!" + letter);
      Check.fails("steps from " + letter, house, UnsupportedOperationException.class,
          () -> house.steps(0, 6, 2));
      Check.fails("steps to " + letter, house, UnsupportedOperationException.class,
          () -> house.steps(0, 1, 6));
      Check.fails("stateAt from " + letter, house, UnsupportedOperationException.class,
          () -> house.stateAt(0, 6, 2, -1));
      Check.fails("stateAt to " + letter, house, UnsupportedOperationException.class,
          () -> house.stateAt(0, 1, 6, 99));
    }
    Check.same("steps after that", house.steps(0, 1, 2), 1);
  }

  public static void main(String[] args) {
    image();
    reach();
    steps();
    longWay();
    waysThatPart();
    wrongSteps();
    Check.end("MachinesTest");
  }
}
