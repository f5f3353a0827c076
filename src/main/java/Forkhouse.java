import java.util.Arrays;
import java.util.NoSuchElementException;

/**
 * A house of decision diagrams: functions of ten variables shared node by node, put into other
 * orders, counted, covered and weighed, steps of a machine, and families of sets.
 *
 * <p>A function and a family are both held as 1024 bits: one for each row, or for each set. Nodes
 * are found anew when they are asked for, so nothing but the bits has to be kept right. All rows
 * that calls work in are made once, by the constructor: no call makes an object.
 */
public final class Forkhouse {
  private static final int VARIABLES = 10;
  private static final int ROWS = 1024;
  private static final int WORDS = 16;
  private static final int SLOTS = 8;
  private static final int FAMILIES = 6;
  private static final int CORNERS = 7;
  private static final int ALL = 1023;
  /** The variables f to j, on which no set of states hangs. */
  private static final int NEXT_STATE = 0x3E0;
  private static final String WAYS_TO_MAKE = "&|^->";
  private static final String WAYS_TO_JOIN = "|&-*";
  /** The variables a to f differ within a word of 64 rows: in these rows each of them is 1. */
  private static final long[] INNER = {
    0xAAAAAAAAAAAAAAAAL, 0xCCCCCCCCCCCCCCCCL, 0xF0F0F0F0F0F0F0F0L,
    0xFF00FF00FF00FF00L, 0xFFFF0000FFFF0000L, 0xFFFFFFFF00000000L
  };
  /** Weights are told by numbers up to 100, so no other prime divides a chance's lower part. */
  private static final int[] PRIME_NUMBERS = {
    2, 3, 5, 7, 11, 13, 17, 19, 23, 29, 31, 37, 41, 43, 47, 53, 59, 61, 67, 71, 73, 79, 83, 89, 97
  };

  private final Text text;
  private final Formula formula;
  private final Bits[] functions;
  private final Bits[] families;
  private final History history;
  private final Diagrams diagrams;
  private final OrderSearch orderSearch;
  private final Weights weights;
  private final Cubes cubes;
  private final Machine machine;
  private final Things things;
  /** On which variables each slot of functions hangs, as of the last look. */
  private final int[] supports;
  /** What a slot is to become, so that it can be made of this slot too. */
  private final Bits result;
  private final Bits spare;
  private final Bits other;

  public Forkhouse() {
    text = new Text();
    formula = new Formula();
    functions = new Bits[SLOTS];
    for (int slot = 0; slot < SLOTS; slot++) {
      functions[slot] = new Bits();
    }
    families = new Bits[FAMILIES];
    for (int slot = 0; slot < FAMILIES; slot++) {
      families[slot] = new Bits();
    }
    history = new History();
    diagrams = new Diagrams();
    orderSearch = new OrderSearch();
    weights = new Weights();
    cubes = new Cubes();
    machine = new Machine();
    things = new Things();
    supports = new int[SLOTS];
    result = new Bits();
    spare = new Bits();
    other = new Bits();
  }

  // ---- the text

  public int type(char sign) throws IllegalArgumentException, IllegalStateException {
    if (sign < 32 || sign > 126) {
      throw new IllegalArgumentException("no such sign");
    }
    if (text.size() >= Text.TYPED) {
      throw new IllegalStateException("the text is full");
    }
    text.append(sign);
    return text.size();
  }

  public int erase() {
    int size = text.size();
    text.clear();
    return size;
  }

  public char signAt(int place) throws IndexOutOfBoundsException {
    if (place < 0 || place >= text.size()) {
      throw new IndexOutOfBoundsException("no such place");
    }
    return text.at(place);
  }

  // ---- functions

  public int read(int slot) throws IndexOutOfBoundsException {
    needFunction(slot);
    int fault = formula.fault(text, result);
    text.clear();
    if (fault >= 0) {
      return -1 - fault;
    }
    return becomeFunction(slot);
  }

  public int table(int slot, long bits) throws IndexOutOfBoundsException {
    needFunction(slot);
    result.fill(bits);
    return becomeFunction(slot);
  }

  public boolean value(int slot, int row)
      throws IndexOutOfBoundsException, IllegalArgumentException {
    needFunction(slot);
    needSet(row);
    return functions[slot].has(row);
  }

  public int make(int slot, int a, int b, char how)
      throws IndexOutOfBoundsException, IllegalArgumentException {
    needFunction(slot);
    needFunction(a);
    needFunction(b);
    if (WAYS_TO_MAKE.indexOf(how) < 0) {
      throw new IllegalArgumentException("no such way");
    }
    result.combine(functions[a], functions[b], how);
    return becomeFunction(slot);
  }

  public int choose(int slot, int c, int a, int b) throws IndexOutOfBoundsException {
    needFunction(slot);
    needFunction(c);
    needFunction(a);
    needFunction(b);
    result.branch(functions[c], functions[a], functions[b]);
    return becomeFunction(slot);
  }

  public int fix(int slot, int a, int variable, boolean value)
      throws IndexOutOfBoundsException, IllegalArgumentException {
    needFunction(slot);
    needFunction(a);
    needVariable(variable);
    result.copy(functions[a]);
    result.settle(variable, value);
    return becomeFunction(slot);
  }

  public int put(int slot, int a, int variable, int b)
      throws IndexOutOfBoundsException, IllegalArgumentException {
    needFunction(slot);
    needFunction(a);
    needFunction(b);
    needVariable(variable);
    spare.copy(functions[a]);
    spare.settle(variable, true);
    other.copy(functions[a]);
    other.settle(variable, false);
    result.branch(functions[b], spare, other);
    return becomeFunction(slot);
  }

  public int some(int slot, int a, int set)
      throws IndexOutOfBoundsException, IllegalArgumentException {
    needFunction(slot);
    needFunction(a);
    needSet(set);
    result.copy(functions[a]);
    result.takeSome(set);
    return becomeFunction(slot);
  }

  public int each(int slot, int a, int set)
      throws IndexOutOfBoundsException, IllegalArgumentException {
    needFunction(slot);
    needFunction(a);
    needSet(set);
    result.copy(functions[a]);
    result.takeEach(set);
    return becomeFunction(slot);
  }

  public int nodes(int slot) throws IndexOutOfBoundsException {
    needFunction(slot);
    return countNodes(functions[slot]);
  }

  public int allNodes() {
    noteSupports();
    return countAll();
  }

  public int hangs(int slot) throws IndexOutOfBoundsException {
    needFunction(slot);
    return functions[slot].support();
  }

  public boolean isSame(int a, int b) throws IndexOutOfBoundsException {
    needFunction(a);
    needFunction(b);
    return functions[a].matches(functions[b]);
  }

  public boolean isUnder(int a, int b) throws IndexOutOfBoundsException {
    needFunction(a);
    needFunction(b);
    return functions[a].isWithin(functions[b]);
  }

  public boolean isSymmetric(int slot, int u, int v)
      throws IndexOutOfBoundsException, IllegalArgumentException {
    needFunction(slot);
    needVariable(u);
    needVariable(v);
    return functions[slot].staysIfSwapped(u, v);
  }

  public char sort(int slot, int variable)
      throws IndexOutOfBoundsException, IllegalArgumentException {
    needFunction(slot);
    needVariable(variable);
    boolean rises = functions[slot].risesWith(variable);
    boolean falls = functions[slot].fallsWith(variable);
    if (rises && falls) {
      return '*';
    }
    return rises ? '+' : falls ? '-' : '0';
  }

  // ---- models

  public int models(int slot) throws IndexOutOfBoundsException {
    needFunction(slot);
    return functions[slot].count();
  }

  public int modelAt(int slot, int number)
      throws IndexOutOfBoundsException, NoSuchElementException {
    needFunction(slot);
    int row = diagrams.modelOf(functions[slot], number);
    if (row < 0) {
      throw new NoSuchElementException("no such model");
    }
    return row;
  }

  public int rank(int slot, int row)
      throws IndexOutOfBoundsException, IllegalArgumentException, NoSuchElementException {
    needFunction(slot);
    needSet(row);
    if (!functions[slot].has(row)) {
      throw new NoSuchElementException("no model");
    }
    return diagrams.rankOf(functions[slot], row);
  }

  public int weigh(int variable, int above, int below) throws IllegalArgumentException {
    needVariable(variable);
    if (below < 1 || below > 100 || above < 0 || above > below) {
      throw new IllegalArgumentException("no such weight");
    }
    weights.change(variable, above, below);
    return weights.uneven();
  }

  public int tellChance(int slot) throws IndexOutOfBoundsException {
    needFunction(slot);
    weights.tellChanceOf(functions[slot], text);
    return text.size();
  }

  public int likeliest(int slot) throws IndexOutOfBoundsException, NoSuchElementException {
    needFunction(slot);
    int row = weights.likeliestOf(functions[slot]);
    if (row < 0) {
      throw new NoSuchElementException("no model");
    }
    return row;
  }

  // ---- the order

  public int placeOf(int variable) throws IllegalArgumentException {
    needVariable(variable);
    return diagrams.placeIn(variable);
  }

  public int swap(int place) throws IllegalArgumentException {
    if (place < 0 || place > VARIABLES - 2) {
      throw new IllegalArgumentException("no such place");
    }
    diagrams.exchange(place);
    noteSupports();
    return countAll();
  }

  public int sift() {
    noteSupports();
    for (int variable = 0; variable < VARIABLES; variable++) {
      diagrams.move(variable, bestPlace(variable));
    }
    return countAll();
  }

  public int fewest(int slot) throws IndexOutOfBoundsException, UnsupportedOperationException {
    needFunction(slot);
    int set = functions[slot].support();
    if (Integer.bitCount(set) > 5) {
      throw new UnsupportedOperationException("too many variables");
    }
    return orderSearch.fewestNodes(functions[slot].narrow(set), Integer.bitCount(set));
  }

  // ---- cubes

  public int primes(int slot) throws IndexOutOfBoundsException, UnsupportedOperationException {
    needFunction(slot);
    studyCubes(slot);
    return cubes.found();
  }

  public int tellPrime(int slot, int index)
      throws IndexOutOfBoundsException, UnsupportedOperationException, NoSuchElementException {
    needFunction(slot);
    studyCubes(slot);
    if (index < 0 || index >= cubes.found()) {
      throw new NoSuchElementException("no such cube");
    }
    cubes.tell(index, text);
    return text.size();
  }

  public int cover(int slot) throws IndexOutOfBoundsException, UnsupportedOperationException {
    needFunction(slot);
    studyCubes(slot);
    cubes.thin();
    return cubes.left();
  }

  public int tellCover(int slot, int index)
      throws IndexOutOfBoundsException, UnsupportedOperationException, NoSuchElementException {
    needFunction(slot);
    studyCubes(slot);
    cubes.thin();
    if (index < 0 || index >= cubes.left()) {
      throw new NoSuchElementException("no such cube");
    }
    cubes.tell(cubes.placeOfLeft(index), text);
    return text.size();
  }

  public int leastCover(int slot) throws IndexOutOfBoundsException, UnsupportedOperationException {
    needFunction(slot);
    studyCubes(slot);
    if (cubes.found() > Cubes.CHOSEN) {
      throw new UnsupportedOperationException("too many prime cubes");
    }
    return cubes.fewestThatCover();
  }

  // ---- machines

  public int image(int slot, int step, int from)
      throws IndexOutOfBoundsException, UnsupportedOperationException {
    needFunction(slot);
    needFunction(step);
    needFunction(from);
    needStates(from);
    result.fillStates(machine.next(functions[step], functions[from].states()));
    return becomeFunction(slot);
  }

  public int reach(int slot, int step, int from)
      throws IndexOutOfBoundsException, UnsupportedOperationException {
    needFunction(slot);
    needFunction(step);
    needFunction(from);
    needStates(from);
    result.fillStates(machine.reached(functions[step], functions[from].states()));
    return becomeFunction(slot);
  }

  public int steps(int step, int from, int to)
      throws IndexOutOfBoundsException, UnsupportedOperationException {
    needFunction(step);
    needFunction(from);
    needFunction(to);
    needStates(from);
    needStates(to);
    return machine.distance(functions[step], functions[from].states(), functions[to].states());
  }

  public int stateAt(int step, int from, int to, int index)
      throws IndexOutOfBoundsException, UnsupportedOperationException, NoSuchElementException {
    needFunction(step);
    needFunction(from);
    needFunction(to);
    needStates(from);
    needStates(to);
    int start = functions[from].states();
    int length = machine.distance(functions[step], start, functions[to].states());
    if (length < 0 || index < 0 || index > length) {
      throw new NoSuchElementException("no such state");
    }
    return machine.stateOnWay(functions[step], start, length, index);
  }

  // ---- families

  public int add(int slot, int set) throws IndexOutOfBoundsException, IllegalArgumentException {
    needFamily(slot);
    needSet(set);
    result.copy(families[slot]);
    result.include(set);
    return becomeFamily(slot);
  }

  public int join(int slot, int a, int b, char how)
      throws IndexOutOfBoundsException, IllegalArgumentException {
    needFamily(slot);
    needFamily(a);
    needFamily(b);
    if (WAYS_TO_JOIN.indexOf(how) < 0) {
      throw new IllegalArgumentException("no such way");
    }
    if (how == '*') {
      things.unite(families[a], families[b], result);
    } else {
      result.combine(families[a], families[b], how);
    }
    return becomeFamily(slot);
  }

  public int least(int slot, int a) throws IndexOutOfBoundsException {
    needFamily(slot);
    needFamily(a);
    things.findLeast(families[a], result);
    return becomeFamily(slot);
  }

  public int hitting(int slot, int a) throws IndexOutOfBoundsException {
    needFamily(slot);
    needFamily(a);
    things.findHitting(families[a], result);
    return becomeFamily(slot);
  }

  public int setAt(int slot, int index) throws IndexOutOfBoundsException, NoSuchElementException {
    needFamily(slot);
    int set = families[slot].rowAt(index);
    if (set < 0) {
      throw new NoSuchElementException("no such set");
    }
    return set;
  }

  public int familyNodes(int slot) throws IndexOutOfBoundsException {
    needFamily(slot);
    diagrams.begin();
    diagrams.root(families[slot], families[slot].members(), true);
    return diagrams.size();
  }

  public int edge(int thing, int from, int to) throws IllegalArgumentException {
    needVariable(thing);
    needCorner(from);
    needCorner(to);
    things.tellEnds(thing, from, to);
    return things.countWays();
  }

  public int ways(int slot, int from, int to)
      throws IndexOutOfBoundsException, IllegalArgumentException {
    needFamily(slot);
    needCorner(from);
    needCorner(to);
    things.findWays(from, to, result);
    return becomeFamily(slot);
  }

  public int pairings(int slot) throws IndexOutOfBoundsException {
    needFamily(slot);
    things.findPairings(result);
    return becomeFamily(slot);
  }

  public int ofFamily(int slot, int family) throws IndexOutOfBoundsException {
    needFunction(slot);
    needFamily(family);
    result.copy(families[family]);
    return becomeFunction(slot);
  }

  public int ofFunction(int family, int slot) throws IndexOutOfBoundsException {
    needFamily(family);
    needFunction(slot);
    result.copy(functions[slot]);
    return becomeFamily(family);
  }

  // ---- figures

  public int undo() throws NoSuchElementException {
    int code = history.latestCode();
    if (code < 0) {
      throw new NoSuchElementException("no call is kept");
    }
    int family = code - History.OF_FAMILY;
    if (family >= 0 && family < FAMILIES) {
      history.takeBack(families[family]);
    }
    if (code < SLOTS) {
      history.takeBack(functions[code]);
    }
    return code;
  }

  public long checksum() {
    long sum = 7;
    for (int slot = 0; slot < SLOTS; slot++) {
      for (int row = 0; row < ROWS; row++) {
        sum = 31 * sum + (functions[slot].has(row) ? 1 : 0);
      }
    }
    for (int slot = 0; slot < FAMILIES; slot++) {
      sum = 31 * sum + families[slot].count();
      for (int set = 0; set < ROWS; set++) {
        if (families[slot].has(set)) {
          sum = 31 * sum + set;
        }
      }
    }
    for (int place = 0; place < VARIABLES; place++) {
      sum = 31 * sum + diagrams.variableAt(place);
    }
    for (int place = 0; place < text.size(); place++) {
      sum = 31 * sum + text.at(place);
    }
    return sum;
  }

  public boolean isSound() {
    noteSupports();
    for (int slot = 0; slot < SLOTS; slot++) {
      if (!hasSoundRanks(functions[slot])
          || !hasSoundChance(functions[slot])
          || !hasSoundCubes(slot)) {
        return false;
      }
    }
    for (int slot = 0; slot < FAMILIES; slot++) {
      if (!hasSoundHitting(families[slot])) {
        return false;
      }
    }
    return areDiagramsSound();
  }

  // ---- what calls need

  private static void needFunction(int slot) {
    if (slot < 0 || slot >= SLOTS) {
      throw new IndexOutOfBoundsException("no such slot of functions");
    }
  }

  private static void needFamily(int slot) {
    if (slot < 0 || slot >= FAMILIES) {
      throw new IndexOutOfBoundsException("no such slot of families");
    }
  }

  private static void needVariable(int variable) {
    if (variable < 0 || variable >= VARIABLES) {
      throw new IllegalArgumentException("no such variable or thing");
    }
  }

  private static void needSet(int set) {
    if (set < 0 || set >= ROWS) {
      throw new IllegalArgumentException("no such row or set");
    }
  }

  private static void needCorner(int corner) {
    if (corner < 0 || corner >= CORNERS) {
      throw new IllegalArgumentException("no such corner");
    }
  }

  private void needStates(int slot) {
    if ((functions[slot].support() & NEXT_STATE) != 0) {
      throw new UnsupportedOperationException("no set of states");
    }
  }

  /** Finds the prime cubes of a function, or refuses if it hangs on too many variables. */
  private void studyCubes(int slot) {
    int set = functions[slot].support();
    if (Integer.bitCount(set) > Cubes.WIDEST) {
      throw new UnsupportedOperationException("too many variables");
    }
    cubes.study(functions[slot], set);
  }

  // ---- what slots become

  private int becomeFunction(int slot) {
    history.keep(functions[slot], slot);
    functions[slot].copy(result);
    return countNodes(result);
  }

  private int becomeFamily(int slot) {
    history.keep(families[slot], slot + History.OF_FAMILY);
    families[slot].copy(result);
    return result.count();
  }

  // ---- counting nodes

  private int countNodes(Bits function) {
    diagrams.begin();
    diagrams.root(function, function.support(), false);
    return diagrams.size();
  }

  private void noteSupports() {
    for (int slot = 0; slot < SLOTS; slot++) {
      supports[slot] = functions[slot].support();
    }
  }

  private int countAll() {
    diagrams.begin();
    for (int slot = 0; slot < SLOTS; slot++) {
      diagrams.root(functions[slot], supports[slot], false);
    }
    return diagrams.size();
  }

  private boolean isUsed(int variable) {
    for (int slot = 0; slot < SLOTS; slot++) {
      if ((supports[slot] >> variable & 1) != 0) {
        return true;
      }
    }
    return false;
  }

  private int bestPlace(int variable) {
    // A variable on which nothing hangs makes no node anywhere: all places are alike.
    if (!isUsed(variable)) {
      return 0;
    }
    int best = 0;
    int fewestNodes = Integer.MAX_VALUE;
    for (int place = 0; place < VARIABLES; place++) {
      diagrams.move(variable, place);
      int count = countAll();
      if (count < fewestNodes) {
        fewestNodes = count;
        best = place;
      }
    }
    return best;
  }

  // ---- checking the theorem

  private boolean hasSoundRanks(Bits function) {
    int number = 0;
    diagrams.listAllRows();
    for (int position = 0; position < ROWS; position++) {
      int row = diagrams.rowAt(position);
      if (diagrams.positionOf(row) != position) {
        return false;
      }
      if (function.has(row)) {
        number++;
      }
    }
    return number == function.count();
  }

  private boolean hasSoundChance(Bits function) {
    spare.contrary(function);
    return weights.addUpToOne(function, spare);
  }

  private boolean hasSoundCubes(int slot) {
    int set = supports[slot];
    if (Integer.bitCount(set) > 4) {
      return true;
    }
    cubes.study(functions[slot], set);
    cubes.thin();
    return cubes.areSound();
  }

  private boolean hasSoundHitting(Bits family) {
    if (family.count() > 8) {
      return true;
    }
    things.findHitting(family, spare);
    things.findHitting(spare, other);
    things.findLeast(family, result);
    return other.matches(result);
  }

  private boolean areDiagramsSound() {
    diagrams.begin();
    for (int slot = 0; slot < SLOTS; slot++) {
      int root = diagrams.root(functions[slot], supports[slot], false);
      for (int row = 0; row < ROWS; row++) {
        if (diagrams.leadsToOne(root, row) != functions[slot].has(row)) {
          return false;
        }
      }
    }
    return diagrams.areReduced();
  }

  // ---- words of 64 rows

  /** The rows of a word in which a variable is 1. */
  private static long rowsWith(int variable, int word) {
    if (variable >= 0 && variable < INNER.length) {
      return INNER[variable];
    }
    return (word >> variable - INNER.length & 1) == 0 ? 0L : -1L;
  }

  /** A word in which each two rows that differ in a variable from a to f have changed about. */
  private static long turned(long word, int variable) {
    if (variable < 0 || variable >= INNER.length) {
      return word;
    }
    long ones = INNER[variable];
    int distance = 1 << variable;
    return (word & ones) >>> distance | (word & ~ones) << distance;
  }

  /** The text that is typed, told and read. */
  private static final class Text {
    private static final int TYPED = 60;
    private static final int ROOM = 64;
    private final char[] signs = new char[ROOM];
    private int length;

    int size() {
      return length;
    }

    void clear() {
      length = 0;
    }

    void append(char sign) {
      if (length < ROOM) {
        signs[length] = sign;
        length++;
      }
    }

    char at(int place) {
      return place >= 0 && place < length ? signs[place] : ' ';
    }

    /** Appends a number from 0 on, with zeros ahead of it if it has too few digits. */
    void appendNumber(long number, int leastDigits) {
      long scale = 1;
      for (int digits = 1; digits < 18; digits++) {
        if (digits < leastDigits || number / scale >= 10) {
          scale *= 10;
        }
      }
      for (long unit = scale; unit > 0; unit /= 10) {
        append((char) ('0' + number / unit % 10));
      }
    }
  }

  /** Reads formulas, 64 rows at once; a level holds what stands between two open parentheses. */
  private static final class Formula {
    private static final int LEVELS = 64;
    private final long[] sums = new long[LEVELS];
    private final long[] choices = new long[LEVELS];
    private final long[] products = new long[LEVELS];
    private final boolean[] contrary = new boolean[LEVELS];
    private int level;
    private int word;
    private boolean awaitsMember;

    /** Answers the fault's place, or -1 if there is none and the function is in into. */
    int fault(Text text, Bits into) {
      for (int at = 0; at < WORDS; at++) {
        int place = scan(text, at);
        if (place >= 0) {
          return place;
        }
        into.putWord(at, outcome());
      }
      return -1;
    }

    private int scan(Text text, int at) {
      word = at;
      level = 0;
      begin();
      for (int place = 0; place < text.size(); place++) {
        char sign = text.at(place);
        boolean stands = awaitsMember ? takeMember(sign) : takeLink(sign);
        if (!stands) {
          return place;
        }
      }
      return awaitsMember || level > 0 ? text.size() : -1;
    }

    private void begin() {
      sums[level] = 0L;
      choices[level] = 0L;
      products[level] = -1L;
      contrary[level] = false;
      awaitsMember = true;
    }

    private boolean takeMember(char sign) {
      if (sign == '!') {
        contrary[level] = !contrary[level];
        return true;
      }
      if (sign == '(') {
        return open();
      }
      if (sign >= 'a' && sign <= 'j') {
        multiply(rowsWith(sign - 'a', word));
        return true;
      }
      if (sign == '0' || sign == '1') {
        multiply(sign == '1' ? -1L : 0L);
        return true;
      }
      return false;
    }

    private boolean takeLink(char sign) {
      if (sign == ')') {
        return close();
      }
      if (sign != '&' && sign != '^' && sign != '|') {
        return false;
      }
      if (sign != '&') {
        choices[level] ^= products[level];
        products[level] = -1L;
      }
      if (sign == '|') {
        sums[level] |= choices[level];
        choices[level] = 0L;
      }
      awaitsMember = true;
      return true;
    }

    private void multiply(long member) {
      products[level] &= contrary[level] ? ~member : member;
      contrary[level] = false;
      awaitsMember = false;
    }

    private boolean open() {
      if (level + 1 >= LEVELS) {
        return false;
      }
      level++;
      begin();
      return true;
    }

    private boolean close() {
      if (level <= 0) {
        return false;
      }
      long inside = outcome();
      level--;
      multiply(inside);
      return true;
    }

    private long outcome() {
      return sums[level] | (choices[level] ^ products[level]);
    }
  }

  /** A bit for each row of a function, or for each set of a family. */
  private static final class Bits {
    private final long[] words = new long[WORDS];

    boolean has(int row) {
      return row >= 0 && row < ROWS && (words[row >> 6] >>> (row & 63) & 1L) != 0;
    }

    void include(int row) {
      if (row >= 0 && row < ROWS) {
        words[row >> 6] |= 1L << (row & 63);
      }
    }

    void fill(long word) {
      Arrays.fill(words, word);
    }

    void putWord(int word, long bits) {
      if (word >= 0 && word < WORDS) {
        words[word] = bits;
      }
    }

    void copy(Bits from) {
      System.arraycopy(from.words, 0, words, 0, WORDS);
    }

    int count() {
      int count = 0;
      for (int word = 0; word < WORDS; word++) {
        count += Long.bitCount(words[word]);
      }
      return count;
    }

    /** The row with this number among those that are in here, or -1. */
    int rowAt(int number) {
      int ahead = 0;
      for (int row = 0; row < ROWS; row++) {
        if (has(row)) {
          if (ahead == number) {
            return row;
          }
          ahead++;
        }
      }
      return -1;
    }

    boolean matches(Bits with) {
      for (int word = 0; word < WORDS; word++) {
        if (words[word] != with.words[word]) {
          return false;
        }
      }
      return true;
    }

    boolean isWithin(Bits with) {
      for (int word = 0; word < WORDS; word++) {
        if ((words[word] & ~with.words[word]) != 0) {
          return false;
        }
      }
      return true;
    }

    void contrary(Bits from) {
      for (int word = 0; word < WORDS; word++) {
        words[word] = ~from.words[word];
      }
    }

    void combine(Bits a, Bits b, char how) {
      for (int word = 0; word < WORDS; word++) {
        words[word] = combined(a.words[word], b.words[word], how);
      }
    }

    private static long combined(long a, long b, char how) {
      if (how == '&') {
        return a & b;
      }
      if (how == '|') {
        return a | b;
      }
      if (how == '^') {
        return a ^ b;
      }
      return how == '-' ? a & ~b : b | ~a;
    }

    void branch(Bits c, Bits a, Bits b) {
      for (int word = 0; word < WORDS; word++) {
        words[word] = c.words[word] & a.words[word] | ~c.words[word] & b.words[word];
      }
    }

    /** What a word would be if each two rows that differ in a variable changed about. */
    private long across(int variable, int word) {
      if (variable < INNER.length) {
        return turned(words[word & 15], variable);
      }
      return words[(word ^ 1 << variable - INNER.length) & 15];
    }

    // The next four work in place: what a word takes from another one is there still as it was,
    // or is what both become.

    void settle(int variable, boolean value) {
      for (int word = 0; word < WORDS; word++) {
        long stay = value ? rowsWith(variable, word) : ~rowsWith(variable, word);
        words[word] = words[word] & stay | across(variable, word) & ~stay;
      }
    }

    void takeSome(int set) {
      for (int variable = 0; variable < VARIABLES; variable++) {
        for (int word = 0; word < WORDS && (set >> variable & 1) != 0; word++) {
          words[word] |= across(variable, word);
        }
      }
    }

    void takeEach(int set) {
      for (int variable = 0; variable < VARIABLES; variable++) {
        for (int word = 0; word < WORDS && (set >> variable & 1) != 0; word++) {
          words[word] &= across(variable, word);
        }
      }
    }

    /** Includes each set that is greater than one that is in here. */
    void raise() {
      for (int variable = 0; variable < VARIABLES; variable++) {
        for (int word = 0; word < WORDS; word++) {
          words[word] |= across(variable, word) & rowsWith(variable, word);
        }
      }
    }

    /** Of a word of sets, those from which a thing can be taken so that the rest is in here. */
    long oneAbove(int word) {
      long above = 0L;
      for (int variable = 0; variable < VARIABLES; variable++) {
        above |= across(variable, word) & rowsWith(variable, word);
      }
      return above;
    }

    /** Becomes what is in a family but not just above a set that is in another one. */
    void keepLeast(Bits family, Bits raised) {
      for (int word = 0; word < WORDS; word++) {
        words[word] = family.words[word] & ~raised.oneAbove(word);
      }
    }

    /** Whether it is false in a row and true in that which has the variable 1 instead. */
    boolean risesWith(int variable) {
      for (int word = 0; word < WORDS; word++) {
        if ((words[word] & ~across(variable, word) & rowsWith(variable, word)) != 0) {
          return true;
        }
      }
      return false;
    }

    /** Whether it is true in a row and false in that which has the variable 1 instead. */
    boolean fallsWith(int variable) {
      for (int word = 0; word < WORDS; word++) {
        if ((words[word] & ~across(variable, word) & ~rowsWith(variable, word)) != 0) {
          return true;
        }
      }
      return false;
    }

    /** The variables on which the function hangs. */
    int support() {
      int set = 0;
      for (int variable = 0; variable < VARIABLES; variable++) {
        for (int word = 0; word < WORDS; word++) {
          if (words[word] != across(variable, word)) {
            set |= 1 << variable;
            break;
          }
        }
      }
      return set;
    }

    /** The things that are in some set of the family. */
    int members() {
      int set = 0;
      for (int variable = 0; variable < VARIABLES; variable++) {
        for (int word = 0; word < WORDS; word++) {
          if ((words[word] & rowsWith(variable, word)) != 0) {
            set |= 1 << variable;
            break;
          }
        }
      }
      return set;
    }

    boolean staysIfSwapped(int u, int v) {
      for (int row = 0; row < ROWS; row++) {
        boolean unlike = (row >> u & 1) != (row >> v & 1);
        if (unlike && has(row) != has(row ^ 1 << u ^ 1 << v)) {
          return false;
        }
      }
      return true;
    }

    /** The function by told variables alone, at most six, which become a, b and so on. */
    long narrow(int set) {
      long table = 0L;
      for (int row = 0; row < 64; row++) {
        if (has(widened(row, set))) {
          table |= 1L << row;
        }
      }
      return table;
    }

    private static int widened(int row, int set) {
      int wide = 0;
      int rest = row;
      for (int variable = 0; variable < VARIABLES; variable++) {
        if ((set >> variable & 1) != 0) {
          wide |= (rest & 1) << variable;
          rest >>= 1;
        }
      }
      return wide;
    }

    /** The states that are told, if it hangs on no variable of the next state. */
    int states() {
      return (int) words[0];
    }

    /** The states from which this, as a step, leads to a state. */
    int statesAhead(int state) {
      return (int) (words[state >> 1 & 15] >>> ((state & 1) << 5));
    }

    void fillStates(int states) {
      long half = states & 0xFFFFFFFFL;
      fill(half | half << 32);
    }
  }

  /** What slots held ahead of the latest calls: a ring in which the oldest one is lost. */
  private static final class History {
    private static final int KEPT = 12;
    private static final int OF_FAMILY = 100;
    private final Bits[] old = new Bits[KEPT];
    private final int[] codes = new int[KEPT];
    private int latest;
    private int count;

    History() {
      for (int place = 0; place < KEPT; place++) {
        old[place] = new Bits();
      }
    }

    void keep(Bits bits, int code) {
      latest = latest + 1 < KEPT ? latest + 1 : 0;
      old[latest].copy(bits);
      codes[latest] = code;
      count = Math.min(count + 1, KEPT);
    }

    /** The slot of the latest call, as undo tells it, or -1. */
    int latestCode() {
      return count > 0 ? codes[latest] : -1;
    }

    void takeBack(Bits into) {
      if (count > 0) {
        into.copy(old[latest]);
        latest = latest > 0 ? latest - 1 : KEPT - 1;
        count--;
      }
    }
  }

  /** The order of the variables, and the diagrams by it, whose unlike nodes are numbered. */
  private static final class Diagrams {
    /**
     * More than eight functions can have: at the place p there are at most 8 * 2^p parts, and from
     * place 7 on no more functions of the variables left, which makes 1270 nodes.
     */
    private static final int ROOM = 1280;
    private static final int TABLE = 2048;
    /** The numbers 0 and 1 are what is nowhere and everywhere true, or no set and the empty one. */
    private static final int FIRST = 2;

    private final int[] order = new int[VARIABLES];
    /** Those variables in order on which the function at hand hangs. */
    private final int[] line = new int[VARIABLES];
    private int width;
    private final int[] parts = new int[ROWS];
    /** Of each node its variable and its two branches. */
    private final int[] keys = new int[ROOM];
    private final int[] numbers = new int[TABLE];
    private int made;

    Diagrams() {
      for (int place = 0; place < VARIABLES; place++) {
        order[place] = place;
      }
    }

    int variableAt(int place) {
      return place >= 0 && place < VARIABLES ? order[place] : 0;
    }

    int placeIn(int variable) {
      for (int place = 0; place < VARIABLES; place++) {
        if (order[place] == variable) {
          return place;
        }
      }
      return 0;
    }

    void exchange(int place) {
      if (place >= 0 && place + 1 < VARIABLES) {
        int first = order[place];
        order[place] = order[place + 1];
        order[place + 1] = first;
      }
    }

    void move(int variable, int place) {
      int from = placeIn(variable);
      for (int at = from; at < place; at++) {
        exchange(at);
      }
      for (int at = from; at > place; at--) {
        exchange(at - 1);
      }
    }

    void begin() {
      made = 0;
      Arrays.fill(numbers, 0);
    }

    int size() {
      return made;
    }

    /**
     * The number of a function's or a family's root, by variables that hold all on which it hangs,
     * or all things of its sets.
     */
    int root(Bits bits, int set, boolean ofFamily) {
      listRows(set);
      for (int part = 0; part < 1 << width; part++) {
        parts[part] = bits.has(parts[part]) ? 1 : 0;
      }
      for (int place = width - 1; place >= 0; place--) {
        for (int part = 0; part < 1 << place; part++) {
          parts[part] = fork(line[place], parts[2 * part], parts[2 * part + 1], ofFamily);
        }
      }
      return parts[0];
    }

    void listAllRows() {
      listRows(ALL);
    }

    /** Lists the rows with no other variables, the first one in order differing last. */
    private void listRows(int set) {
      width = 0;
      for (int place = 0; place < VARIABLES; place++) {
        if ((set >> order[place] & 1) != 0) {
          line[width] = order[place];
          width++;
        }
      }
      parts[0] = 0;
      for (int listed = 0; listed < width; listed++) {
        int bit = 1 << line[width - 1 - listed];
        for (int part = 0; part < 1 << listed; part++) {
          parts[(1 << listed) + part] = parts[part] | bit;
        }
      }
    }

    private int fork(int variable, int low, int high, boolean ofFamily) {
      if (ofFamily ? high == 0 : high == low) {
        return low;
      }
      int key = variable << 22 | low << 11 | high;
      int spot = spotOf(key);
      if (numbers[spot] == 0 && made + FIRST < ROOM) {
        keys[made + FIRST] = key;
        numbers[spot] = made + FIRST;
        made++;
      }
      return numbers[spot];
    }

    /** Where the number of the node with a key stands, or is to stand. */
    private int spotOf(int key) {
      int spot = key * 0x9E3779B1 >>> 21;
      for (int tries = 0; tries < TABLE; tries++) {
        if (numbers[spot] == 0 || keyOf(numbers[spot]) == key) {
          return spot;
        }
        spot = spot + 1 & TABLE - 1;
      }
      return spot;
    }

    private int keyOf(int number) {
      return number >= 0 && number < ROOM ? keys[number] : 0;
    }

    boolean leadsToOne(int root, int row) {
      int number = root;
      for (int depth = 0; depth < VARIABLES && number >= FIRST; depth++) {
        int key = keyOf(number);
        number = (row >> (key >> 22) & 1) == 0 ? key >> 11 & 2047 : key & 2047;
      }
      return number == 1;
    }

    /** Whether all nodes are unlike, and the branches of each. */
    boolean areReduced() {
      for (int number = FIRST; number < made + FIRST; number++) {
        int key = keyOf(number);
        if (numbers[spotOf(key)] != number || (key >> 11 & 2047) == (key & 2047)) {
          return false;
        }
      }
      return true;
    }

    int rowAt(int position) {
      return position >= 0 && position < ROWS ? parts[position] : 0;
    }

    int positionOf(int row) {
      int position = 0;
      for (int place = 0; place < VARIABLES; place++) {
        position = 2 * position + (row >> order[place] & 1);
      }
      return position;
    }

    /** The model with a number, or -1. */
    int modelOf(Bits bits, int number) {
      listAllRows();
      int ahead = 0;
      for (int position = 0; position < ROWS; position++) {
        if (bits.has(parts[position])) {
          if (ahead == number) {
            return parts[position];
          }
          ahead++;
        }
      }
      return -1;
    }

    int rankOf(Bits bits, int row) {
      listAllRows();
      int ahead = 0;
      for (int position = 0; position < ROWS && parts[position] != row; position++) {
        if (bits.has(parts[position])) {
          ahead++;
        }
      }
      return ahead;
    }
  }

  /** Finds the fewest nodes by any order, for sets of first variables instead of all orders. */
  private static final class OrderSearch {
    private static final int WIDEST = 5;
    private static final int SETS = 32;
    /** For each set the fewest nodes with a variable of it, if these are the first ones. */
    private final int[] costs = new int[SETS];
    private final long[] parts = new long[SETS];

    int fewestNodes(long models, int width) {
      int all = (1 << Math.min(width, WIDEST)) - 1;
      for (int set = 1; set <= all; set++) {
        costs[set] = Integer.MAX_VALUE;
        for (int last = 0; last < WIDEST; last++) {
          if ((set >> last & 1) != 0) {
            int before = set ^ 1 << last;
            int cost = costs[before] + countForks(models, before, last);
            costs[set] = Math.min(costs[set], cost);
          }
        }
      }
      return costs[all];
    }

    /** How many unlike parts that hang on a variable there are if a set before it is told. */
    private int countForks(long models, int before, int variable) {
      int count = 0;
      for (int ones = 0; ones <= before; ones++) {
        if ((ones & ~before) == 0) {
          long part = partOf(models, before, ones);
          if (part != turned(part, variable) && !isAmong(part, count) && count < SETS) {
            parts[count] = part;
            count++;
          }
        }
      }
      return count;
    }

    private boolean isAmong(long part, int count) {
      for (int place = 0; place < count; place++) {
        if (parts[place] == part) {
          return true;
        }
      }
      return false;
    }

    private static long partOf(long models, int before, int ones) {
      long part = models;
      for (int variable = 0; variable < WIDEST; variable++) {
        if ((before >> variable & 1) != 0) {
          long rows = INNER[variable];
          long kept = (ones >> variable & 1) != 0 ? part & rows : part & ~rows;
          part = kept | turned(kept, variable);
        }
      }
      return part;
    }
  }

  /** A number from 0 up to 100 to the tenth, which is more than a long holds. */
  private static final class Wide {
    private static final int DIGITS = 6;
    private static final long UNIT = 1000000L;
    private long high;
    private long low;

    void clear() {
      high = 0;
      low = 0;
    }

    /** Adds x times y, x being at most 100 to the sixth, y at most 100 to the fourth. */
    void gather(long x, long y) {
      high += x / UNIT * y;
      low += x % UNIT * y;
      high += low / UNIT;
      low %= UNIT;
    }

    void gatherAll(Wide number) {
      high += number.high;
      low += number.low;
      high += low / UNIT;
      low %= UNIT;
    }

    void copy(Wide from) {
      high = from.high;
      low = from.low;
    }

    boolean isOver(Wide number) {
      return high > number.high || high == number.high && low > number.low;
    }

    boolean matches(Wide number) {
      return high == number.high && low == number.low;
    }

    boolean isDivisibleBy(int divisor) {
      return divisor > 0 && (high % divisor * UNIT + low) % divisor == 0;
    }

    void divide(int divisor) {
      if (divisor > 0) {
        low = (high % divisor * UNIT + low) / divisor;
        high /= divisor;
      }
    }

    void tell(Text text) {
      if (high > 0) {
        text.appendNumber(high, 1);
        text.appendNumber(low, DIGITS);
      } else {
        text.appendNumber(low, 1);
      }
    }
  }

  /** The weights of the variables, and chances as whole numbers over the product of all belows. */
  private static final class Weights {
    private static final int INNER_ROWS = 64;
    private final int[] aboves = new int[VARIABLES];
    private final int[] belows = new int[VARIABLES];
    /** The products for the rows of the variables a to f, and for those of g to j. */
    private final long[] inner = new long[INNER_ROWS];
    private final long[] outer = new long[WORDS];
    private final Wide above = new Wide();
    private final Wide below = new Wide();

    Weights() {
      Arrays.fill(aboves, 1);
      Arrays.fill(belows, 2);
      multiplyOut();
    }

    void change(int variable, int newAbove, int newBelow) {
      if (variable >= 0 && variable < VARIABLES) {
        aboves[variable] = newAbove;
        belows[variable] = newBelow;
        multiplyOut();
      }
    }

    int uneven() {
      int count = 0;
      for (int variable = 0; variable < VARIABLES; variable++) {
        if (2 * aboves[variable] != belows[variable]) {
          count++;
        }
      }
      return count;
    }

    private void multiplyOut() {
      for (int row = 0; row < INNER_ROWS; row++) {
        inner[row] = product(row, 0, INNER.length);
      }
      for (int row = 0; row < WORDS; row++) {
        outer[row] = product(row, INNER.length, VARIABLES);
      }
    }

    private long product(int row, int first, int end) {
      long product = 1;
      for (int variable = Math.max(first, 0); variable < end && variable < VARIABLES; variable++) {
        boolean isOne = (row >> variable - first & 1) != 0;
        product *= isOne ? aboves[variable] : belows[variable] - aboves[variable];
      }
      return product;
    }

    private void gatherChance(Bits function) {
      above.clear();
      for (int word = 0; word < WORDS; word++) {
        long sum = 0;
        for (int row = 0; row < INNER_ROWS; row++) {
          if (function.has(word << 6 | row)) {
            sum += inner[row];
          }
        }
        above.gather(sum, outer[word]);
      }
    }

    private void gatherWhole() {
      long innerWhole = 1;
      long outerWhole = 1;
      for (int variable = 0; variable < VARIABLES; variable++) {
        if (variable < INNER.length) {
          innerWhole *= belows[variable];
        } else {
          outerWhole *= belows[variable];
        }
      }
      below.clear();
      below.gather(innerWhole, outerWhole);
    }

    void tellChanceOf(Bits function, Text text) {
      gatherChance(function);
      gatherWhole();
      for (int number = 0; number < PRIME_NUMBERS.length; number++) {
        reduceBy(PRIME_NUMBERS[number]);
      }
      text.clear();
      above.tell(text);
      text.append('/');
      below.tell(text);
    }

    private void reduceBy(int divisor) {
      // 100 to the tenth is below 2 to the 67th, so no prime divides it more often than that.
      for (int times = 0; times < 67; times++) {
        if (!above.isDivisibleBy(divisor) || !below.isDivisibleBy(divisor)) {
          return;
        }
        above.divide(divisor);
        below.divide(divisor);
      }
    }

    /** The likeliest row, the least of like ones, or -1. */
    int likeliestOf(Bits function) {
      int best = -1;
      for (int row = 0; row < ROWS; row++) {
        if (function.has(row)) {
          above.clear();
          above.gather(inner[row & 63], outer[row >> 6]);
          if (best < 0 || above.isOver(below)) {
            below.copy(above);
            best = row;
          }
        }
      }
      return best;
    }

    boolean addUpToOne(Bits function, Bits contrary) {
      gatherChance(function);
      below.copy(above);
      gatherChance(contrary);
      above.gatherAll(below);
      gatherWhole();
      return above.matches(below);
    }
  }

  /** The prime cubes of one function that hangs on at most six variables, and its cover. */
  private static final class Cubes {
    private static final int WIDEST = 6;
    private static final int CHOSEN = 12;
    /** No more of the 729 cubes can be so that none is under another one. */
    private static final int ROOM = 240;
    private final int[] letters = new int[WIDEST];
    private int width;
    private long models;
    /** Each cube's number, of digits to three, the first letter's being the highest one. */
    private final int[] codes = new int[ROOM];
    private final long[] rows = new long[ROOM];
    private final boolean[] kept = new boolean[ROOM];
    private int total;

    void study(Bits function, int set) {
      width = 0;
      for (int variable = 0; variable < VARIABLES; variable++) {
        if ((set >> variable & 1) != 0 && width < WIDEST) {
          letters[width] = variable;
          width++;
        }
      }
      models = function.narrow(set);
      total = 0;
      int end = 1;
      for (int letter = 0; letter < width; letter++) {
        end *= 3;
      }
      for (int code = 0; code < end; code++) {
        consider(code);
      }
    }

    private void consider(int code) {
      long cube = rowsOf(code);
      if (isInside(cube) && isGreatest(cube) && total < ROOM) {
        codes[total] = code;
        rows[total] = cube;
        kept[total] = true;
        total++;
      }
    }

    private long rowsOf(int code) {
      long cube = -1L;
      int rest = code;
      for (int letter = width - 1; letter >= 0; letter--) {
        if (rest % 3 == 1) {
          cube &= ~INNER[letter];
        }
        if (rest % 3 == 2) {
          cube &= INNER[letter];
        }
        rest /= 3;
      }
      return cube;
    }

    private boolean isInside(long cube) {
      return (cube & ~models) == 0;
    }

    private boolean isGreatest(long cube) {
      for (int letter = 0; letter < width; letter++) {
        long wider = cube | turned(cube, letter);
        if (wider != cube && isInside(wider)) {
          return false;
        }
      }
      return true;
    }

    int found() {
      return total;
    }

    /** Leaves out each cube that the others that are left can do without. */
    void thin() {
      for (int cube = 0; cube < total; cube++) {
        kept[cube] = false;
        if (!coversAll()) {
          kept[cube] = true;
        }
      }
    }

    private boolean coversAll() {
      long covered = 0L;
      for (int cube = 0; cube < total; cube++) {
        if (kept[cube]) {
          covered |= rows[cube];
        }
      }
      return covered == models;
    }

    int left() {
      int count = 0;
      for (int cube = 0; cube < total; cube++) {
        if (kept[cube]) {
          count++;
        }
      }
      return count;
    }

    int placeOfLeft(int index) {
      int ahead = 0;
      for (int cube = 0; cube < total; cube++) {
        if (kept[cube]) {
          if (ahead == index) {
            return cube;
          }
          ahead++;
        }
      }
      return 0;
    }

    int fewestThatCover() {
      int best = total;
      for (int chosen = 0; chosen < 1 << Math.min(total, CHOSEN); chosen++) {
        int size = Integer.bitCount(chosen);
        if (size < best && chosenCover(chosen)) {
          best = size;
        }
      }
      return best;
    }

    private boolean chosenCover(int chosen) {
      long covered = 0L;
      for (int cube = 0; cube < total; cube++) {
        if ((chosen >> cube & 1) != 0) {
          covered |= rows[cube];
        }
      }
      return covered == models;
    }

    void tell(int cube, Text text) {
      text.clear();
      if (cube < 0 || cube >= total) {
        return;
      }
      int rest = codes[cube];
      int unit = 1;
      for (int letter = 1; letter < width; letter++) {
        unit *= 3;
      }
      for (int letter = 0; letter < width && unit > 0; letter++) {
        tellLetter(rest / unit % 3, letters[letter], text);
        unit /= 3;
      }
      if (text.size() == 0) {
        text.append('1');
      }
    }

    private static void tellLetter(int digit, int variable, Text text) {
      if (digit == 1) {
        text.append('!');
      }
      if (digit != 0) {
        text.append((char) ('a' + variable));
      }
    }

    /** Whether the cover, which is there, covers all, but none of its cubes can be left out. */
    boolean areSound() {
      if (!coversAll() || total <= CHOSEN && fewestThatCover() > left()) {
        return false;
      }
      for (int cube = 0; cube < total; cube++) {
        if (!isInside(rows[cube]) || kept[cube] && coversAllBut(cube)) {
          return false;
        }
      }
      return true;
    }

    private boolean coversAllBut(int cube) {
      kept[cube] = false;
      boolean covers = coversAll();
      kept[cube] = true;
      return covers;
    }
  }

  /** Ways of a machine; a set of its states is held by the bits of an int. */
  private static final class Machine {
    private static final int STATES = 32;
    /** The states from which each number of steps can lead to the goal. */
    private final int[] layers = new int[STATES];

    int next(Bits step, int states) {
      int reached = 0;
      for (int state = 0; state < STATES; state++) {
        if ((step.statesAhead(state) & states) != 0) {
          reached |= 1 << state;
        }
      }
      return reached;
    }

    private static int before(Bits step, int states) {
      int reached = 0;
      for (int state = 0; state < STATES; state++) {
        if ((states >>> state & 1) != 0) {
          reached |= step.statesAhead(state);
        }
      }
      return reached;
    }

    int reached(Bits step, int from) {
      int reached = from;
      for (int times = 0; times < STATES; times++) {
        reached |= next(step, reached);
      }
      return reached;
    }

    /** How many steps lead from some states to others, or -1; notes the layers up to there. */
    int distance(Bits step, int from, int to) {
      int layer = to;
      for (int length = 0; length < STATES; length++) {
        layers[length] = layer;
        if ((layer & from) != 0) {
          return length;
        }
        layer = before(step, layer);
      }
      return -1;
    }

    /** A state of the first of the shortest ways, whose layers are noted. */
    int stateOnWay(Bits step, int from, int length, int index) {
      int choice = from;
      int state = 0;
      for (int place = 0; place <= index; place++) {
        int togo = length - place;
        if (togo >= 0 && togo < STATES) {
          state = lowest(choice & layers[togo]);
          choice = next(step, 1 << state);
        }
      }
      return state;
    }

    private static int lowest(int states) {
      for (int state = 0; state < STATES; state++) {
        if ((states >>> state & 1) != 0) {
          return state;
        }
      }
      return 0;
    }
  }

  /** The things, their ends as ways, and what is made of families of them. */
  private static final class Things {
    /** The two corners of each way, as bits, or 0. */
    private final int[] ends = new int[VARIABLES];
    private final int[] counts = new int[ROWS];
    private final int[] moreCounts = new int[ROWS];
    private final Bits raised = new Bits();

    void tellEnds(int thing, int from, int to) {
      if (thing >= 0 && thing < VARIABLES) {
        ends[thing] = from == to ? 0 : 1 << from | 1 << to;
      }
    }

    int countWays() {
      int count = 0;
      for (int thing = 0; thing < VARIABLES; thing++) {
        if (ends[thing] != 0) {
          count++;
        }
      }
      return count;
    }

    void findWays(int from, int to, Bits into) {
      into.fill(0L);
      walk(1 << from, 1 << to, 1 << from, 0, into);
    }

    /** Goes on from a corner; each level sees one more of the seven corners. */
    private void walk(int here, int goal, int seen, int set, Bits into) {
      if (here == goal) {
        into.include(set);
        return;
      }
      for (int thing = 0; thing < VARIABLES; thing++) {
        int there = ends[thing] & ~here;
        boolean starts = (ends[thing] & here) != 0;
        if (starts && (there & seen) == 0 && Integer.bitCount(seen) < CORNERS) {
          walk(there, goal, seen | there, set | 1 << thing, into);
        }
      }
    }

    void findPairings(Bits into) {
      into.fill(0L);
      for (int set = 0; set < ROWS; set++) {
        if (arePaired(set)) {
          into.include(set);
        }
      }
    }

    private boolean arePaired(int set) {
      int taken = 0;
      for (int thing = 0; thing < VARIABLES; thing++) {
        if ((set >> thing & 1) != 0) {
          if (ends[thing] == 0 || (ends[thing] & taken) != 0) {
            return false;
          }
          taken |= ends[thing];
        }
      }
      return true;
    }

    /**
     * Finds each set of all things of a set of a and a set of b: the pairs of which both are
     * within a set are those of which each is, and of these the ones within less are taken away.
     */
    void unite(Bits a, Bits b, Bits into) {
      countWithin(a, counts);
      countWithin(b, moreCounts);
      for (int set = 0; set < ROWS; set++) {
        counts[set] *= moreCounts[set];
      }
      takeLessAway(counts);
      into.fill(0L);
      for (int set = 0; set < ROWS; set++) {
        if (counts[set] != 0) {
          into.include(set);
        }
      }
    }

    private static void countWithin(Bits family, int[] counts) {
      for (int set = 0; set < ROWS && set < counts.length; set++) {
        counts[set] = family.has(set) ? 1 : 0;
      }
      for (int thing = 0; thing < VARIABLES; thing++) {
        for (int set = 0; set < ROWS && set < counts.length; set++) {
          if ((set >> thing & 1) != 0) {
            counts[set] += counts[set ^ 1 << thing];
          }
        }
      }
    }

    private static void takeLessAway(int[] counts) {
      for (int thing = 0; thing < VARIABLES; thing++) {
        for (int set = 0; set < ROWS && set < counts.length; set++) {
          if ((set >> thing & 1) != 0) {
            counts[set] -= counts[set ^ 1 << thing];
          }
        }
      }
    }

    void findLeast(Bits family, Bits into) {
      raised.copy(family);
      raised.raise();
      into.keepLeast(family, raised);
    }

    /** A set hits all others just if none of them is in what it leaves. */
    void findHitting(Bits family, Bits into) {
      raised.copy(family);
      raised.raise();
      into.fill(0L);
      for (int set = 0; set < ROWS; set++) {
        if (!raised.has(ALL ^ set)) {
          into.include(set);
        }
      }
      findLeast(into, into);
    }
  }
}
