import java.util.List;
import java.util.NoSuchElementException;

/** Runs of as many calls on one object as the document speaks for, whose end is known by hand. */
public final class LongRunsTest {
  private LongRunsTest() {}

  private static void isAtEnd(String what, House house) {
    Check.same(what + ", calls on one object", house.calls(), House.CALLS);
  }

  /** A full text refuses all that comes, and is still read as it was typed. */
  private static void typing() {
    House house = new House();
    Houses.type(house, "!".repeat(59) + "j");
    for (int time = 0; time < 450; time++) {
      Check.same("type behind 60 signs", Check.outcome(() -> house.type('a')),
          "throws.IllegalStateException");
    }
    Check.same("read 60 signs", house.read(0), 1);
    Check.same("models of !j", house.models(0), 512);
    isAtEnd("typing", house);
  }

  private static void reading() {
    House house = new House();
    for (int time = 0; time < 128; time++) {
      char letter = (char) ('a' + time % 10);
      house.type('!');
      Check.same("type behind one sign", house.type(letter), 2);
      Check.same("read !" + letter, house.read(time % 8), 1);
      Check.same("hangs of !" + letter, house.hangs(time % 8), 1 << time % 10);
    }
    isAtEnd("reading", house);
  }

  /** Of many calls that are kept twelve are left to be undone. */
  private static void keeping() {
    House house = new House();
    for (int time = 0; time < 486; time++) {
      house.table(time % 8, time);
    }
    for (int time = 485; time > 473; time--) {
      Check.same("undo of the table " + time, house.undo(), time % 8);
      Check.same("the slot behind that", house.models(time % 8), 16 * Integer.bitCount(time - 8));
    }
    Check.same("undo of the thirteenth", Check.outcome(() -> house.undo()),
        "throws.NoSuchElementException");
    Check.same("the slot that stays", house.models(1), 16 * Integer.bitCount(473));
    isAtEnd("keeping", house);
  }

  private static void undoing() {
    House house = Houses.with("a");
    for (int time = 0; time < 253; time++) {
      boolean ofFamily = time % 3 == 0;
      if (ofFamily) {
        Check.same("add to none", house.add(time % 6, time), 1);
      } else {
        house.make(time % 7 + 1, 0, 0, '|');
      }
      Check.same("undo of this", house.undo(), ofFamily ? 100 + time % 6 : time % 7 + 1);
    }
    Check.same("undo of the first one", house.undo(), 0);
    Check.same("undo of no more", Check.outcome(() -> house.undo()),
        "throws.NoSuchElementException");
    Check.same("what is there at the end", house.checksum(), new House().checksum());
    isAtEnd("undoing", house);
  }

  /** Sets come into a family out of order, and are told in order. */
  private static void adding() {
    House house = new House();
    for (int time = 0; time < 256; time++) {
      Check.same("add " + time, house.add(5, time * 389 % 1024), time + 1);
    }
    int ahead = -1;
    for (int index = 0; index < 255; index++) {
      int set = house.setAt(5, index);
      Check.same("the set " + index + " is above the one ahead", set > ahead, true);
      ahead = set;
    }
    Check.same("a set behind the last", Check.outcome(() -> house.setAt(5, 256)),
        "throws.NoSuchElementException");
    isAtEnd("adding", house);
  }

  /** Each variable goes to the last place in turn: ten such turns are nothing. */
  private static void swapping() {
    House house = Houses.with("a&b|c&d|e&f|g&h|i&j");
    long before = house.checksum();
    for (int turn = 0; turn < 50; turn++) {
      for (int place = 0; place < 9; place++) {
        Check.same("nodes", house.swap(place) >= 10, true);
      }
    }
    Check.same("nodes at the end", house.allNodes(), 10);
    Check.same("the order at the end", Houses.order(house), List.of(0, 1, 2, 3, 4, 5, 6, 7, 8, 9));
    Check.same("the sum at the end", house.checksum(), before);
    while (house.calls() < House.CALLS) {
      Check.same("nodes of the slot", house.nodes(0), 10);
    }
  }

  private static void sifting() {
    House house = Houses.with("a&f|b&g|c&h|d&i|e&j");
    Check.same("nodes at first", house.nodes(0), 62);
    int nodes = house.sift();
    while (house.calls() < House.CALLS - 2) {
      int next = house.sift();
      Check.same("sift makes no more nodes of " + nodes, next <= nodes, true);
      nodes = next;
    }
    Check.same("models", house.models(0), 781);
    Check.same("nodes", house.allNodes(), nodes);
    isAtEnd("sifting", house);
  }

  /** Of all weights that a variable had the latest one counts. */
  private static void weighing() {
    House house = Houses.with("a&j");
    for (int time = 0; time < 480; time++) {
      Check.same("weigh " + time, house.weigh(time % 10, time % 101, 100) <= 10, true);
    }
    Check.same("weigh a", house.weigh(0, 1, 3), 10);
    Check.same("weigh j", house.weigh(9, 3, 7), 10);
    for (int variable = 1; variable < 9; variable++) {
      Check.same("weigh the others", house.weigh(variable, 1, 2), 10 - variable);
    }
    house.tellChance(0);
    Check.same("the chance", Houses.text(house), "1/7");
    while (house.calls() < House.CALLS) {
      Check.same("the likeliest model", house.likeliest(0), 513);
    }
  }

  private static void telling() {
    House house = Houses.with("a&b|!a&c");
    while (house.calls() < House.CALLS - 12) {
      Check.same("tellPrime", house.tellPrime(0, 2), 2);
      Check.same("tellCover", house.tellCover(0, 0), 3);
      Check.same("tellChance", house.tellChance(0), 3);
      Check.same("isSound", house.isSound(), true);
    }
    house.tellPrime(0, 1);
    Check.same("the cube", Houses.text(house), "!ac");
    while (house.calls() < House.CALLS) {
      Check.same("leastCover", house.leastCover(0), 2);
    }
  }

  /** A thing can be a way again and again: the last place of it counts. */
  private static void edges() {
    House house = new House();
    for (int time = 0; time < 480; time++) {
      Check.same("edge " + time, house.edge(time % 10, time % 6, time % 6 + 1),
          Math.min(time + 1, 10));
    }
    for (int thing = 0; thing < 6; thing++) {
      Check.same("one of a line", house.edge(thing, thing, thing + 1), 10);
    }
    for (int thing = 6; thing < 10; thing++) {
      Check.same("none any more", house.edge(thing, 3, 3), 15 - thing);
    }
    Check.same("ways from 0 to 6", house.ways(0, 0, 6), 1);
    Check.same("the way", house.setAt(0, 0), 63);
    while (house.calls() < House.CALLS) {
      Check.same("pairings of a line of six", house.pairings(1), 21);
    }
  }

  /** A line of states, walked to its end. */
  private static void walking() {
    House house = new House();
    int[] pairs = new int[62];
    for (int state = 0; state < 31; state++) {
      pairs[2 * state] = state;
      pairs[2 * state + 1] = state + 1;
    }
    Houses.step(house, 0, pairs);
    Houses.states(house, 1, 0);
    Houses.states(house, 2, 31);
    Houses.states(house, 3, 0);
    while (house.calls() < 400) {
      for (int state = 0; state < 32; state++) {
        Check.same("stateAt " + state, house.stateAt(0, 1, 2, state), state);
      }
    }
    for (int time = 1; time < 32; time++) {
      Check.same("image " + time, house.image(3, 0, 3), 5);
    }
    Check.same("no state is behind the last", house.image(3, 0, 3), 0);
    while (house.calls() < House.CALLS) {
      Check.same("steps", house.steps(0, 1, 2), 31);
    }
  }

  /** Calls that are refused again and again leave a house as it was. */
  private static void refusing() {
    House house = new House();
    Check.Call[] refused = {
      () -> house.type('\n'), () -> house.signAt(0), () -> house.read(8), () -> house.table(-1, 1),
      () -> house.value(0, 1024), () -> house.make(0, 0, 0, '*'), () -> house.choose(0, 0, 0, 8),
      () -> house.fix(0, 0, 10, true), () -> house.put(0, 0, -1, 0), () -> house.some(0, 0, 1024),
      () -> house.each(0, 0, -1), () -> house.nodes(8), () -> house.hangs(8),
      () -> house.isSame(0, 8), () -> house.isUnder(8, 0), () -> house.isSymmetric(0, 0, 10),
      () -> house.sort(0, 10), () -> house.models(8), () -> house.modelAt(0, 0),
      () -> house.rank(0, 0), () -> house.weigh(0, 2, 1), () -> house.tellChance(8),
      () -> house.likeliest(0), () -> house.placeOf(10), () -> house.swap(9),
      () -> house.fewest(8), () -> house.primes(8), () -> house.tellPrime(0, 0),
      () -> house.cover(8), () -> house.tellCover(0, 0), () -> house.leastCover(8),
      () -> house.image(8, 0, 0), () -> house.reach(0, 8, 0), () -> house.steps(0, 0, 8),
      () -> house.stateAt(0, 0, 0, 0), () -> house.add(6, 0), () -> house.join(0, 0, 0, '^'),
      () -> house.least(6, 0), () -> house.hitting(0, 6), () -> house.setAt(0, 0),
      () -> house.familyNodes(6), () -> house.edge(10, 0, 1), () -> house.ways(0, 0, 7),
      () -> house.pairings(6), () -> house.ofFamily(0, 6), () -> house.ofFunction(6, 0),
      () -> house.undo()
    };
    while (house.calls() < House.CALLS - 1) {
      Check.Call call = refused[house.calls() % refused.length];
      Check.same("a refused call", Check.outcome(call).startsWith("throws."), true);
    }
    Check.same("the sum behind all that", house.checksum(), new House().checksum());
  }

  public static void main(String[] args) {
    typing();
    reading();
    keeping();
    undoing();
    adding();
    swapping();
    sifting();
    weighing();
    telling();
    edges();
    walking();
    refusing();
    Check.end("LongRunsTest");
  }
}
