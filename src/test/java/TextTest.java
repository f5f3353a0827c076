import java.util.List;
import java.util.NoSuchElementException;

/** Promises 1 to 5: a new house, the text, and reading it. */
public final class TextTest {
  private TextTest() {}

  /** Promise 1. */
  private static void newHouse() {
    House house = new House();
    for (int slot = 0; slot < 8; slot++) {
      Check.same("models of slot " + slot + " at first", house.models(slot), 0);
    }
    for (int slot = 0; slot < 6; slot++) {
      Check.same("sets of family " + slot + " at first", Houses.sets(house, slot), List.of());
    }
    Check.same("the order at first", Houses.order(house),
        List.of(0, 1, 2, 3, 4, 5, 6, 7, 8, 9));
    Check.same("the text at first", Houses.text(house), "");
    Check.same("nodes of all at first", house.allNodes(), 0);
    Check.same("no call is kept at first", Check.outcome(() -> house.undo()),
        "throws.NoSuchElementException");
    Check.same("no thing is a way at first", house.edge(9, 3, 3), 0);
    Check.same("all weights are 1/2 at first", house.weigh(9, 1, 2), 0);
    house.table(0, -1L);
    Check.same("a house has nothing to do with another one", new House().models(0), 0);
  }

  /** Promise 2. */
  private static void type() {
    House house = new House();
    Check.same("type", house.type('x'), 1);
    Check.same("type once more", house.type('y'), 2);
    Check.same("type the lowest code", house.type((char) 32), 3);
    Check.same("type the highest code", house.type((char) 126), 4);
    Check.same("what is typed", Houses.text(house), "xy ~");
    for (int code : new int[] {0, 9, 10, 31, 127, 128, 255, 256, 353, 65535}) {
      Check.fails("type code " + code, house, IllegalArgumentException.class,
          () -> house.type((char) code));
    }
    for (int size = 5; size <= 60; size++) {
      Check.same("type up to 60", house.type('z'), size);
    }
    Check.fails("type beyond 60", house, IllegalStateException.class, () -> house.type('z'));
    Check.fails("type no sign beyond 60", house, IllegalArgumentException.class,
        () -> house.type((char) 127));
    house.tellChance(0);
    Check.same("type behind what was told", house.type('?'), 4);
    Check.same("which is there then", Houses.text(house), "0/1?");
  }

  /** Promise 3. */
  private static void erase() {
    House house = new House();
    Check.same("erase nothing", house.erase(), 0);
    Houses.type(house, "a&b");
    Check.same("erase", house.erase(), 3);
    Check.same("erase once more", house.erase(), 0);
    Check.same("what is left", Houses.text(house), "");
    Check.same("type after that", house.type('c'), 1);
    Check.same("erase is not kept", Check.outcome(() -> house.undo()),
        "throws.NoSuchElementException");
  }

  /** Promise 4. */
  private static void signAt() {
    House house = new House();
    Check.fails("signAt of no text", house, IndexOutOfBoundsException.class,
        () -> house.signAt(0));
    Houses.type(house, "q~ ");
    Check.same("signAt 0", house.signAt(0), 'q');
    Check.same("signAt 1", house.signAt(1), '~');
    Check.same("signAt 2", house.signAt(2), ' ');
    for (int place : new int[] {-1, 3, 60, 64, 1000, Integer.MIN_VALUE, Integer.MAX_VALUE}) {
      Check.fails("signAt " + place, house, IndexOutOfBoundsException.class,
          () -> house.signAt(place));
    }
  }

  /** Promise 5. */
  private static void read() {
    House house = new House();
    Check.same("read a", Houses.read(house, 0, "a"), 1);
    Check.same("the text is taken away", house.erase(), 0);
    Check.same("read a&b", Houses.read(house, 1, "a&b"), 2);
    Check.same("read 0", Houses.read(house, 2, "0"), 0);
    Check.same("read 1", Houses.read(house, 3, "1"), 0);
    Check.same("1 is true", house.models(3), 1024);
    Check.same("read parity", Houses.read(house, 4, "a^b^c^d^e^f^g^h^i^j"), 19);
    Houses.isTrueWhere("parity", house, 4, row -> Integer.bitCount(row) % 2 == 1);
    for (char letter = 'a'; letter <= 'j'; letter++) {
      char asked = letter;
      Houses.read(house, 5, "" + letter);
      Houses.isTrueWhere("letter " + letter, house, 5, row -> Houses.bit(row, asked));
    }
  }

  private static void readByRank() {
    House house = new House();
    Houses.read(house, 0, "a|b^c&d");
    Houses.isTrueWhere("a|b^c&d", house, 0, row ->
        Houses.bit(row, 'a') | (Houses.bit(row, 'b') ^ (Houses.bit(row, 'c') & Houses.bit(row, 'd'))));
    Houses.read(house, 0, "d&c^b|a");
    Houses.isTrueWhere("d&c^b|a", house, 0, row ->
        ((Houses.bit(row, 'd') & Houses.bit(row, 'c')) ^ Houses.bit(row, 'b')) | Houses.bit(row, 'a'));
    Houses.read(house, 0, "!a&b");
    Houses.isTrueWhere("!a&b", house, 0, row -> !Houses.bit(row, 'a') & Houses.bit(row, 'b'));
    Houses.read(house, 0, "!(a&b)^!!c|!!!j&(g|h)&i");
    Houses.isTrueWhere("with parentheses", house, 0, row ->
        (!(Houses.bit(row, 'a') & Houses.bit(row, 'b')) ^ Houses.bit(row, 'c'))
            | (!Houses.bit(row, 'j') & (Houses.bit(row, 'g') | Houses.bit(row, 'h'))
                & Houses.bit(row, 'i')));
    Houses.read(house, 0, "a^a^a");
    Houses.isTrueWhere("a^a^a", house, 0, row -> Houses.bit(row, 'a'));
    Check.same("59 signs ahead of a letter", Houses.read(house, 0, "!".repeat(59) + "e"), 1);
    Houses.isTrueWhere("an odd number of !", house, 0, row -> !Houses.bit(row, 'e'));
    Houses.read(house, 0, "(".repeat(29) + "!f" + ")".repeat(29));
    Houses.isTrueWhere("29 parentheses", house, 0, row -> !Houses.bit(row, 'f'));
    Check.same("a letter twice", Houses.read(house, 0, "a&a"), 1);
    Check.same("what is the same", Houses.read(house, 0, "a&b|a&!b"), 1);
  }

  private static void readFaults() {
    House house = Houses.with("c");
    house.undo();
    Houses.fault(house, "", 0);
    Houses.fault(house, "a&", 2);
    Houses.fault(house, "ab", 1);
    Houses.fault(house, "a b", 1);
    Houses.fault(house, " a", 0);
    Houses.fault(house, "a ", 1);
    Houses.fault(house, ")", 0);
    Houses.fault(house, "(a", 2);
    Houses.fault(house, "a)", 1);
    Houses.fault(house, "(a))", 3);
    Houses.fault(house, "()", 1);
    Houses.fault(house, "!", 1);
    Houses.fault(house, "!)", 1);
    Houses.fault(house, "!&a", 1);
    Houses.fault(house, "&a", 0);
    Houses.fault(house, "a&&b", 2);
    Houses.fault(house, "a||b", 2);
    Houses.fault(house, "a^|b", 2);
    Houses.fault(house, "a!b", 1);
    Houses.fault(house, "a!", 1);
    Houses.fault(house, "(a)(b)", 3);
    Houses.fault(house, "(a)b", 3);
    Houses.fault(house, "k", 0);
    Houses.fault(house, "`", 0);
    Houses.fault(house, "A", 0);
    Houses.fault(house, "2", 0);
    Houses.fault(house, "/", 0);
    Houses.fault(house, "10", 1);
    Houses.fault(house, "1/2", 1);
    Houses.fault(house, "a-b", 1);
    Houses.fault(house, "a>b", 1);
    Houses.fault(house, "a|(b&(c^d)", 10);
    Houses.fault(house, "a|(b&(c^))", 8);
    Houses.fault(house, "(".repeat(60), 60);
    Houses.fault(house, "!".repeat(60), 60);
    Houses.fault(house, "(".repeat(30) + "a" + ")".repeat(29), 60);
    Check.same("no fault is kept", Check.outcome(() -> house.undo()),
        "throws.NoSuchElementException");
    Houses.type(house, "a|");
    for (int slot : Houses.NO_SLOTS) {
      Check.fails("read into " + slot, house, IndexOutOfBoundsException.class,
          () -> house.read(slot));
    }
    Check.same("the text stays then", Houses.text(house), "a|");
  }

  private static void readWhatWasTold() {
    House house = Houses.with("d|!d");
    Check.same("tell a cube", house.tellPrime(0, 0), 1);
    Check.same("read it", house.read(1), 0);
    Check.same("it is the same", house.isSame(0, 1), true);
    house.tellChance(0);
    Check.same("read a chance", house.read(1), -2);
    Check.same("undo is of the slot that was read", house.undo(), 1);
    Check.same("and of the one ahead of it", house.undo(), 0);
    Check.same("which were all", Check.outcome(() -> house.undo()),
        "throws." + NoSuchElementException.class.getSimpleName());
  }

  public static void main(String[] args) {
    newHouse();
    type();
    erase();
    signAt();
    read();
    readByRank();
    readFaults();
    readWhatWasTold();
    Check.end("TextTest");
  }
}
