import java.util.ArrayList;
import java.util.List;
import java.util.NoSuchElementException;

/** Promises 51 to 53, and that calls that throw change nothing, not even what is kept. */
public final class FiguresTest {
  private FiguresTest() {}

  /** Promise 51. */
  private static void undo() {
    House house = new House();
    Check.fails("undo at first", house, NoSuchElementException.class, () -> house.undo());
    long first = house.checksum();
    house.table(3, 5L);
    house.add(3, 9);
    house.add(3, 10);
    long then = house.checksum();
    house.table(3, 6L);
    Check.same("undo of a function", house.undo(), 3);
    Check.same("what is there", house.checksum(), then);
    Check.same("undo of a family", house.undo(), 103);
    Check.same("which holds what it held", Houses.sets(house, 3), List.of(9));
    Check.same("undo once more", house.undo(), 103);
    Check.same("undo of the first call", house.undo(), 3);
    Check.same("all is as at first", house.checksum(), first);
    Check.fails("undo beyond all", house, NoSuchElementException.class, () -> house.undo());
    Check.same("undo is not kept itself", house.models(3), 0);
  }

  private static void undoOfTwelve() {
    House house = new House();
    List<Long> sums = new ArrayList<>();
    for (int call = 0; call < 20; call++) {
      sums.add(house.checksum());
      if (call % 3 == 2) {
        house.add(call % 6, call * 50);
      } else {
        house.table(call % 8, call + 1);
      }
    }
    for (int call = 19; call >= 8; call--) {
      Check.same("undo of call " + call, house.undo(), call % 3 == 2 ? 100 + call % 6 : call % 8);
      Check.same("what was there ahead of call " + call, house.checksum(), sums.get(call));
    }
    Check.fails("undo of the 13th", house, NoSuchElementException.class, () -> house.undo());
    house.table(0, 77L);
    Check.same("undo after that", house.undo(), 0);
    Check.fails("undo of no more", house, NoSuchElementException.class, () -> house.undo());
  }

  private static void undoOfTheSame() {
    House house = new House();
    house.table(0, 3L);
    house.table(0, 3L);
    Check.same("what became the same is kept", house.undo(), 0);
    Check.same("it holds the same", house.models(0), 32);
    Check.same("and what was ahead", house.undo(), 0);
    Check.same("it holds nothing then", house.models(0), 0);
  }

  private interface Change {
    int run(House house);
  }

  /** Each call that lets a slot become something is kept, with the slot that undo tells. */
  private static void eachIsKept() {
    isKept("read", 4, house -> Houses.read(house, 4, "a|c"));
    isKept("table", 4, house -> house.table(4, 9L));
    isKept("make", 4, house -> house.make(4, 0, 1, '^'));
    isKept("choose", 4, house -> house.choose(4, 0, 1, 2));
    isKept("fix", 4, house -> house.fix(4, 0, 1, true));
    isKept("put", 4, house -> house.put(4, 0, 0, 1));
    isKept("some", 4, house -> house.some(4, 0, 1));
    isKept("each", 4, house -> house.each(4, 0, 1));
    isKept("image", 4, house -> house.image(4, 2, 1));
    isKept("reach", 4, house -> house.reach(4, 2, 1));
    isKept("ofFamily", 4, house -> house.ofFamily(4, 0));
    isKept("add", 103, house -> house.add(3, 9));
    isKept("join", 103, house -> house.join(3, 0, 1, '|'));
    isKept("least", 103, house -> house.least(3, 0));
    isKept("hitting", 103, house -> house.hitting(3, 0));
    isKept("ways", 103, house -> house.ways(3, 0, 1));
    isKept("pairings", 103, house -> house.pairings(3));
    isKept("ofFunction", 103, house -> house.ofFunction(3, 0));
  }

  private static House filled() {
    House house = Houses.with("a&b|g", "c", "a^f|b&i");
    Houses.family(house, 0, 3, 7, 12);
    Houses.family(house, 1, 5, 64);
    house.edge(0, 0, 1);
    house.edge(1, 0, 1);
    for (int call = 0; call < 12; call++) {
      house.table(7, call);
    }
    return house;
  }

  private static void isKept(String what, int code, Change change) {
    House house = filled();
    long before = house.checksum();
    change.run(house);
    Check.same(what + " changes something", house.checksum() == before, false);
    Check.same("undo of " + what, house.undo(), code);
    Check.same("what is there after undo of " + what, house.checksum(), before);
    for (int call = 0; call < 11; call++) {
      house.undo();
    }
    Check.same(what + " lets the oldest be forgotten", Check.outcome(() -> house.undo()),
        "throws.NoSuchElementException");
  }

  /** Calls that let no slot become something are not kept. */
  private static void othersAreNotKept() {
    House house = new House();
    house.type('a');
    house.erase();
    house.swap(3);
    house.sift();
    house.weigh(2, 1, 3);
    house.edge(2, 1, 3);
    house.tellChance(0);
    house.nodes(0);
    house.allNodes();
    house.familyNodes(0);
    house.isSound();
    house.checksum();
    house.primes(0);
    house.steps(0, 0, 0);
    Check.fails("nothing is kept of others", house, NoSuchElementException.class,
        () -> house.undo());
  }

  /** Promise 52. */
  private static void checksum() {
    long sum = 7;
    for (int row = 0; row < 8192; row++) {
      sum *= 31;
    }
    for (int family = 0; family < 6; family++) {
      sum *= 31;
    }
    for (int variable = 0; variable < 10; variable++) {
      sum = sum * 31 + variable;
    }
    Check.same("checksum at first", new House().checksum(), sum);
    House house = Houses.with("j", "a&b");
    house.swap(8);
    Houses.family(house, 0, 512, 3);
    Houses.family(house, 5, 0);
    Houses.type(house, "a ~");
    Check.same("checksum of all", house.checksum(), sumOf(house));
    house.weigh(0, 1, 3);
    house.edge(0, 1, 3);
    Check.same("weights and edges are not in it", house.checksum(), sumOf(house));
    Check.same("it is told twice alike", house.checksum(), house.checksum());
  }

  private static long sumOf(House house) {
    long sum = 7;
    for (int slot = 0; slot < 8; slot++) {
      for (boolean isTrue : house.rows(slot)) {
        sum = sum * 31 + (isTrue ? 1 : 0);
      }
    }
    for (int slot = 0; slot < 6; slot++) {
      List<Integer> sets = Houses.sets(house, slot);
      sum = sum * 31 + sets.size();
      for (int set : sets) {
        sum = sum * 31 + set;
      }
    }
    for (int variable : Houses.order(house)) {
      sum = sum * 31 + variable;
    }
    for (char sign : Houses.text(house).toCharArray()) {
      sum = sum * 31 + sign;
    }
    return sum;
  }

  /** Promise 53. */
  private static void isSound() {
    House house = new House();
    Check.same("sound at first", house.isSound(), true);
    House full = filled();
    full.weigh(0, 0, 1);
    full.weigh(3, 99, 100);
    full.swap(1);
    Houses.family(full, 2, 0);
    Houses.family(full, 3, 0, 5);
    Houses.family(full, 4, 1, 2, 3, 4, 5, 6, 7, 8, 9, 10, 11);
    Houses.type(full, "g~");
    long before = full.checksum();
    Check.same("sound", full.isSound(), true);
    Check.same("looking changes nothing", full.checksum(), before);
    Check.same("nor what is kept", full.undo(), 104);
    Houses.read(full, 0, "!(a&b&c)&(a|b|c)&d");
    Houses.read(full, 1, "a^b^c^d^e^f^g^h^i^j");
    full.sift();
    Check.same("sound by another order", full.isSound(), true);
  }

  /** Of all calls that can throw, in all ways: nothing is kept, and weights and edges stay. */
  private static void nothingIsKeptOfWhatThrows() {
    House house = new House();
    Change[] calls = {
      h -> h.type('\n'), h -> h.signAt(0), h -> h.read(8), h -> h.table(-1, 1L),
      h -> h.value(0, 1024) ? 1 : 0, h -> h.make(0, 0, 0, '?'), h -> h.make(0, 0, 8, '&'),
      h -> h.choose(0, 0, 0, 8), h -> h.fix(0, 0, 10, true), h -> h.put(0, 0, -1, 0),
      h -> h.some(0, 0, 1024), h -> h.each(0, 0, -1), h -> h.nodes(8), h -> h.hangs(8),
      h -> h.isSame(0, 8) ? 1 : 0, h -> h.isUnder(8, 0) ? 1 : 0,
      h -> h.isSymmetric(0, 0, 10) ? 1 : 0, h -> h.sort(0, 10), h -> h.models(8),
      h -> h.modelAt(0, 0), h -> h.rank(0, 0), h -> h.weigh(0, 2, 1), h -> h.tellChance(8),
      h -> h.likeliest(0), h -> h.placeOf(10), h -> h.swap(9), h -> h.fewest(8),
      h -> h.primes(8), h -> h.tellPrime(0, 0), h -> h.cover(8), h -> h.tellCover(0, 0),
      h -> h.leastCover(8), h -> h.image(0, 0, 8), h -> h.reach(0, 8, 0), h -> h.steps(8, 0, 0),
      h -> h.stateAt(0, 0, 0, 0), h -> h.add(0, 1024), h -> h.join(0, 0, 0, '^'),
      h -> h.least(6, 0), h -> h.hitting(0, 6), h -> h.setAt(0, 0), h -> h.familyNodes(6),
      h -> h.edge(0, 0, 7), h -> h.ways(0, 7, 0), h -> h.pairings(6), h -> h.ofFamily(0, 6),
      h -> h.ofFunction(0, 8), h -> h.undo()
    };
    long before = house.checksum();
    for (int call = 0; call < calls.length; call++) {
      Change change = calls[call];
      Check.same("call " + call + " throws",
          Check.outcome(() -> change.run(house)).startsWith("throws."), true);
    }
    Check.same("all is as at first", house.checksum(), before);
    Check.same("nothing is kept", Check.outcome(() -> house.undo()),
        "throws.NoSuchElementException");
    Check.same("weights stay", house.weigh(9, 1, 2), 0);
    Check.same("edges stay", house.edge(9, 1, 1), 0);
  }

  public static void main(String[] args) {
    undo();
    undoOfTwelve();
    undoOfTheSame();
    eachIsKept();
    othersAreNotKept();
    checksum();
    isSound();
    nothingIsKeptOfWhatThrows();
    Check.end("FiguresTest");
  }
}
