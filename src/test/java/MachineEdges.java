import java.util.ArrayList;
import java.util.List;

/** The edges that promises 36 to 39 name: steps of a machine. */
final class MachineEdges {
  /** Slot 0 leads from 0 by all states in turn to 31; 1 is the state 0, 7 the state 31. */
  private static final String[] LINE = {line(), "states 1 0", "states 7 31"};
  /** Slot 0 leads from 0 to 1 and 31, from 31 to 0; 1 is the state 0, 7 the state 31. */
  private static final String[] LOOP = {"moves 0 0-1 0-31 31-0", "states 1 0", "states 7 31"};

  private MachineEdges() {}

  static void test(Edges edges) {
    image(edges);
    reach(edges);
    steps(edges);
    stateAt(edges);
  }

  private static String line() {
    StringBuilder moves = new StringBuilder("moves 0");
    for (int state = 0; state < 31; state++) {
      moves.append(' ').append(state).append('-').append(state + 1);
    }
    return moves.toString();
  }

  /** Calls with '@' for a set of states, which are refused for f to j, but not for e. */
  private static List<String> noStates(String... calls) {
    List<String> lines = new ArrayList<>();
    for (String letters : List.of("f", "g", "h", "i", "j", "a&b&c&d&e&f&g&h&i&j")) {
      lines.add("formula 6 " + letters);
      for (String call : calls) {
        lines.add(call.replace("@", "6") + Edges.UNSUPPORTED);
      }
    }
    lines.add("formula 6 a&b&c&d&e&(f|!f)");
    for (String call : calls) {
      lines.add(call.replace("@", "6"));
    }
    return lines;
  }

  private static void image(Edges edges) {
    edges.about("image", LOOP);
    edges.test("Lets a slot become the set of states to which a step leads from some states.",
        "image 2 0 1", "models 2 = 64", "value 2 1 = true", "value 2 31 = true",
        "value 2 1023 = true", "value 2 0 = false", "hangs 2 = 31", "image 1 0 1",
        "value 1 31 = true", "undo = 1", "value 1 0 = true", "undo = 2", "undo = 7");
    edges.test("slot: the slot",
        "image 7 0 7 = 5", "value 7 0 = true", "image 0 0 7 = 8", "models 0 = 64",
        Edges.noSlot("image @ 0 1"));
    edges.test("step: the step",
        "image 2 1 1", "models 2 = 1024", "image 2 7 1", "models 2 = 0",
        Edges.noSlot("image 0 @ 1"));
    edges.test("from: the states",
        "image 2 0 7 = 5", "value 2 0 = true", "formula 0 !a&!b&!c&!d&!e", "image 2 0 0 = 0",
        "models 2 = 1024", Edges.noSlot("image 0 0 @"));
    edges.test("Returns how many nodes it has then.",
        "image 2 0 6 = 0", "table 2 -1", "image 3 2 1 = 0", "models 3 = 1024", "image 3 2 6 = 0",
        "models 3 = 0", "image 3 6 1 = 0", "models 3 = 0", "image 3 0 7 = 5");
    edges.test("Throws IndexOutOfBoundsException if there is no such slot, for any",
        Edges.noSlot("image @ 0 1", "image 0 @ 1", "image 0 0 @", "image @ @ @"));
    edges.test("Throws UnsupportedOperationException if the states hang on f to j",
        noStates("image 0 1 @", "image 6 1 @"));
    edges.first("image", "formula 6 f", Edges.noSlot("image @ 0 6", "image 0 @ 6"));
  }

  private static void reach(Edges edges) {
    edges.about("reach", LOOP);
    edges.test("Lets a slot become the set of states to which any number of steps leads from some"
            + " states, also none.",
        "reach 2 0 1", "models 2 = 96", "value 2 0 = true", "value 2 1 = true",
        "value 2 31 = true", "hangs 2 = 31", "states 3 5", "reach 2 0 3 = 5", "value 2 5 = true",
        "models 2 = 32", "reach 3 0 3 = 5", "undo = 3", "undo = 2");
    edges.test("slot: the slot",
        "reach 7 0 7", "models 7 = 96", "reach 0 0 1", "models 0 = 96",
        Edges.noSlot("reach @ 0 1"));
    edges.test("step: the step",
        "reach 2 1 1", "models 2 = 1024", "reach 2 7 1 = 5", "models 2 = 32",
        Edges.noSlot("reach 0 @ 1"));
    edges.test("from: the states",
        "states 7 1", "reach 2 0 7 = 5", "value 2 1 = true", "formula 0 !a&!b&!c&!d&!e",
        "reach 2 0 0 = 0", "models 2 = 1024", Edges.noSlot("reach 0 0 @"));
    edges.test("Returns how many nodes it has then.",
        "reach 2 0 6 = 0", "models 2 = 0", "reach 2 6 1 = 5", LINE, "reach 2 0 1 = 0",
        "models 2 = 1024", "reach 2 0 7 = 5");
    edges.test("Throws IndexOutOfBoundsException if there is no such slot, for any",
        Edges.noSlot("reach @ 0 1", "reach 0 @ 1", "reach 0 0 @", "reach @ @ @"));
    edges.test("Throws UnsupportedOperationException if the states hang on f to j",
        noStates("reach 0 1 @", "reach 6 1 @"));
    edges.first("reach", "formula 6 f", Edges.noSlot("reach @ 0 6", "reach 0 @ 6"));
  }

  private static void steps(Edges edges) {
    edges.about("steps", LOOP);
    edges.test("Returns the fewest steps from one of some states to one of others.",
        "steps 0 1 7 = 1", "states 2 1 31", "states 3 0 31", "steps 0 1 2 = 1", "steps 0 2 3 = 0",
        "states 2 5 31", "steps 0 2 1 = 1", "undo = 2");
    edges.test("step: the step",
        "steps 0 1 7 = 1", "steps 7 7 1 = 1", "steps 7 1 7 = -1", Edges.noSlot("steps @ 1 7"));
    edges.test("from: the states",
        "formula 0 !a&!b&!c&!d&!e", "steps 0 0 7 = 1", "steps 0 7 0 = -1", "steps 0 7 7 = 0",
        Edges.noSlot("steps 0 @ 7"));
    edges.test("to: the others",
        "formula 0 !a&!b&!c&!d&!e", "steps 0 1 0 = 0", "steps 0 1 7 = 1",
        Edges.noSlot("steps 0 1 @"));
    edges.test("Returns how many, -1 if none lead there.",
        "steps 0 1 1 = 0", "steps 6 1 1 = 0", "steps 6 1 7 = -1", "steps 0 6 7 = -1",
        "steps 0 1 6 = -1", "steps 0 6 6 = -1", LINE, "steps 0 1 7 = 31", "steps 0 7 1 = -1",
        "states 2 30", "steps 0 1 2 = 30", "table 2 -1", "steps 0 2 7 = 0");
    edges.test("Throws IndexOutOfBoundsException if there is no such slot, for any",
        Edges.noSlot("steps @ 1 7", "steps 0 @ 7", "steps 0 1 @", "steps @ @ @"));
    edges.test("Throws UnsupportedOperationException if states hang on f to j, either",
        noStates("steps 0 @ 1", "steps 0 1 @", "steps 0 @ @"));
    edges.first("steps", "formula 6 f",
        Edges.noSlot("steps @ 6 6", "steps 0 @ 6", "steps 0 6 @", "steps @ 6 1", "steps @ 1 6"));
  }

  private static void stateAt(Edges edges) {
    edges.about("stateAt", LOOP);
    edges.test("Returns a state of a way with so many steps, of several the one whose states, one"
            + " by one, come first by their numbers.",
        "moves 2 3-9 3-8 9-0 8-31 4-5 5-0", "states 3 3 4", "states 4 0 31", "steps 2 3 4 = 2",
        "stateAt 2 3 4 0 = 3", "stateAt 2 3 4 1 = 8", "stateAt 2 3 4 2 = 31",
        "stateAt 2 3 1 1 = 9", "stateAt 2 3 1 2 = 0");
    edges.test("step: the step",
        "stateAt 0 1 7 1 = 31", "stateAt 1 1 7 1 = 31", "states 7 0", "stateAt 7 7 1 0 = 0",
        Edges.noSlot("stateAt @ 1 7 0"));
    edges.test("from: the states",
        "formula 0 !a&!b&!c&!d&!e", "stateAt 0 0 7 0 = 0", "stateAt 0 7 7 0 = 31",
        Edges.noSlot("stateAt 0 @ 7 0"));
    edges.test("to: the others",
        "formula 0 !a&!b&!c&!d&!e", "stateAt 0 1 0 0 = 0", "stateAt 0 1 7 1 = 31",
        Edges.noSlot("stateAt 0 1 @ 0"));
    edges.test("index: its place, from 0, the first one being where it begins",
        LINE, "stateAt 0 1 7 0 = 0", "stateAt 0 1 7 1 = 1", "stateAt 0 1 7 30 = 30",
        "stateAt 0 1 7 31 = 31", "stateAt 0 1 7 -1" + Edges.NONE, "stateAt 0 1 7 32" + Edges.NONE);
    edges.test("Returns the state.",
        "stateAt 0 1 1 0 = 0", "stateAt 0 7 7 0 = 31", "table 2 -1", "stateAt 0 2 2 0 = 0",
        "states 2 9 31", "states 3 31 9", "stateAt 0 2 3 0 = 9", "states 2 31", "states 3 1",
        "stateAt 0 2 3 0 = 31", "stateAt 0 2 3 1 = 0", "stateAt 0 2 3 2 = 1");
    edges.test("Throws IndexOutOfBoundsException if there is no such slot, for any",
        Edges.noSlot("stateAt @ 1 7 0", "stateAt 0 @ 7 0", "stateAt 0 1 @ 0", "stateAt @ @ @ 0"));
    edges.test("Throws UnsupportedOperationException if states hang on f to j, either",
        noStates("stateAt 0 @ 1 0", "stateAt 0 1 @ 0", "stateAt 0 @ @ 0"));
    edges.test("Throws NoSuchElementException if no steps lead there, or there is no such place",
        "stateAt 6 1 7 0" + Edges.NONE, "stateAt 0 6 7 0" + Edges.NONE,
        "stateAt 0 1 6 0" + Edges.NONE, Edges.beyond(0, 1, Edges.NONE, "stateAt 0 1 7 @"),
        Edges.beyond(0, 0, Edges.NONE, "stateAt 0 1 1 @", "stateAt 6 1 1 @"),
        "stateAt 0 1 1 0 = 0");
    edges.first("stateAt", "formula 6 f",
        Edges.noSlot("stateAt @ 6 6 -1", "stateAt 0 @ 6 0", "stateAt 0 6 @ 99", "stateAt @ 1 7 -1"),
        Edges.beyond(0, 0, Edges.UNSUPPORTED, "stateAt 0 6 1 @", "stateAt 0 1 6 @"));
  }
}
