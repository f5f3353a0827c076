import java.util.ArrayList;
import java.util.List;

/**
 * A Forkhouse that is asked for no more than those calls for which the document speaks. What takes
 * more of them, like a look at all rows, is asked of copies: new objects that go through the same
 * calls first.
 */
final class House {
  static final int CALLS = 512;
  private static final int ROWS = 1024;

  private interface Call {
    Object of(Forkhouse house);
  }

  private final Forkhouse house = new Forkhouse();
  private final List<Call> calls = new ArrayList<>();

  private Object did(Call call) {
    if (calls.size() >= CALLS) {
      throw new AssertionError("more calls on one object than the document speaks for");
    }
    calls.add(call);
    return call.of(house);
  }

  /** Another object with the same calls behind it. */
  House copy() {
    House copy = new House();
    for (Call call : calls) {
      Check.outcome(() -> copy.did(call));
    }
    return copy;
  }

  /** The function of a slot, row by row. */
  boolean[] rows(int slot) {
    boolean[] rows = new boolean[ROWS];
    House copy = copy();
    for (int row = 0; row < ROWS; row++) {
      if (copy.calls.size() >= CALLS) {
        copy = copy();
      }
      rows[row] = copy.value(slot, row);
    }
    return rows;
  }

  /** How many calls it has been asked for. */
  int calls() {
    return calls.size();
  }

  int type(char sign) {
    return (int) did(h -> h.type(sign));
  }

  int erase() {
    return (int) did(h -> h.erase());
  }

  char signAt(int place) {
    return (char) did(h -> h.signAt(place));
  }

  int read(int slot) {
    return (int) did(h -> h.read(slot));
  }

  int table(int slot, long bits) {
    return (int) did(h -> h.table(slot, bits));
  }

  boolean value(int slot, int row) {
    return (boolean) did(h -> h.value(slot, row));
  }

  int make(int slot, int a, int b, char how) {
    return (int) did(h -> h.make(slot, a, b, how));
  }

  int choose(int slot, int c, int a, int b) {
    return (int) did(h -> h.choose(slot, c, a, b));
  }

  int fix(int slot, int a, int variable, boolean value) {
    return (int) did(h -> h.fix(slot, a, variable, value));
  }

  int put(int slot, int a, int variable, int b) {
    return (int) did(h -> h.put(slot, a, variable, b));
  }

  int some(int slot, int a, int set) {
    return (int) did(h -> h.some(slot, a, set));
  }

  int each(int slot, int a, int set) {
    return (int) did(h -> h.each(slot, a, set));
  }

  int nodes(int slot) {
    return (int) did(h -> h.nodes(slot));
  }

  int allNodes() {
    return (int) did(h -> h.allNodes());
  }

  int hangs(int slot) {
    return (int) did(h -> h.hangs(slot));
  }

  boolean isSame(int a, int b) {
    return (boolean) did(h -> h.isSame(a, b));
  }

  boolean isUnder(int a, int b) {
    return (boolean) did(h -> h.isUnder(a, b));
  }

  boolean isSymmetric(int slot, int u, int v) {
    return (boolean) did(h -> h.isSymmetric(slot, u, v));
  }

  char sort(int slot, int variable) {
    return (char) did(h -> h.sort(slot, variable));
  }

  int models(int slot) {
    return (int) did(h -> h.models(slot));
  }

  int modelAt(int slot, int number) {
    return (int) did(h -> h.modelAt(slot, number));
  }

  int rank(int slot, int row) {
    return (int) did(h -> h.rank(slot, row));
  }

  int weigh(int variable, int above, int below) {
    return (int) did(h -> h.weigh(variable, above, below));
  }

  int tellChance(int slot) {
    return (int) did(h -> h.tellChance(slot));
  }

  int likeliest(int slot) {
    return (int) did(h -> h.likeliest(slot));
  }

  int placeOf(int variable) {
    return (int) did(h -> h.placeOf(variable));
  }

  int swap(int place) {
    return (int) did(h -> h.swap(place));
  }

  int sift() {
    return (int) did(h -> h.sift());
  }

  int fewest(int slot) {
    return (int) did(h -> h.fewest(slot));
  }

  int primes(int slot) {
    return (int) did(h -> h.primes(slot));
  }

  int tellPrime(int slot, int index) {
    return (int) did(h -> h.tellPrime(slot, index));
  }

  int cover(int slot) {
    return (int) did(h -> h.cover(slot));
  }

  int tellCover(int slot, int index) {
    return (int) did(h -> h.tellCover(slot, index));
  }

  int leastCover(int slot) {
    return (int) did(h -> h.leastCover(slot));
  }

  int image(int slot, int step, int from) {
    return (int) did(h -> h.image(slot, step, from));
  }

  int reach(int slot, int step, int from) {
    return (int) did(h -> h.reach(slot, step, from));
  }

  int steps(int step, int from, int to) {
    return (int) did(h -> h.steps(step, from, to));
  }

  int stateAt(int step, int from, int to, int index) {
    return (int) did(h -> h.stateAt(step, from, to, index));
  }

  int add(int slot, int set) {
    return (int) did(h -> h.add(slot, set));
  }

  int join(int slot, int a, int b, char how) {
    return (int) did(h -> h.join(slot, a, b, how));
  }

  int least(int slot, int a) {
    return (int) did(h -> h.least(slot, a));
  }

  int hitting(int slot, int a) {
    return (int) did(h -> h.hitting(slot, a));
  }

  int setAt(int slot, int index) {
    return (int) did(h -> h.setAt(slot, index));
  }

  int familyNodes(int slot) {
    return (int) did(h -> h.familyNodes(slot));
  }

  int edge(int thing, int from, int to) {
    return (int) did(h -> h.edge(thing, from, to));
  }

  int ways(int slot, int from, int to) {
    return (int) did(h -> h.ways(slot, from, to));
  }

  int pairings(int slot) {
    return (int) did(h -> h.pairings(slot));
  }

  int ofFamily(int slot, int family) {
    return (int) did(h -> h.ofFamily(slot, family));
  }

  int ofFunction(int family, int slot) {
    return (int) did(h -> h.ofFunction(family, slot));
  }

  int undo() {
    return (int) did(h -> h.undo());
  }

  long checksum() {
    return (long) did(h -> h.checksum());
  }

  boolean isSound() {
    return (boolean) did(h -> h.isSound());
  }
}
