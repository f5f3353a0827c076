import java.math.BigInteger;
import java.util.ArrayDeque;
import java.util.ArrayList;
import java.util.Arrays;
import java.util.Collections;
import java.util.Deque;
import java.util.HashMap;
import java.util.HashSet;
import java.util.List;
import java.util.Map;
import java.util.NoSuchElementException;
import java.util.Set;
import java.util.TreeMap;
import java.util.TreeSet;

/** The document's words, done as slowly and plainly as they stand; the class is held against it. */
final class PlainHouse {
  private static final int ROWS = 1024;

  private static final class Kept {
    final int code;
    final Object old;

    Kept(int code, Object old) {
      this.code = code;
      this.old = old;
    }
  }

  /** A cube: for each variable -1 if it is not told, else 0 or 1. */
  private static final class Cube {
    final int[] tells = new int[10];

    Cube() {
      Arrays.fill(tells, -1);
    }

    boolean isTrue(int row) {
      for (int k = 0; k < 10; k++) {
        if (tells[k] >= 0 && tells[k] != (row >> k & 1)) {
          return false;
        }
      }
      return true;
    }

    boolean isUnder(boolean[] f) {
      for (int row = 0; row < ROWS; row++) {
        if (isTrue(row) && !f[row]) {
          return false;
        }
      }
      return true;
    }

    String told() {
      StringBuilder s = new StringBuilder();
      for (int k = 0; k < 10; k++) {
        if (tells[k] >= 0) {
          s.append(tells[k] == 0 ? "!" : "").append((char) ('a' + k));
        }
      }
      return s.length() == 0 ? "1" : s.toString();
    }
  }

  private static final class Fault extends Exception {
    private static final long serialVersionUID = 1L;
    final int place;

    Fault(int place) {
      this.place = place;
    }
  }

  final boolean[][] functions = new boolean[8][ROWS];
  final List<TreeSet<Integer>> families = new ArrayList<>();
  final List<Integer> order = new ArrayList<>();
  final int[] above = new int[10];
  final int[] below = new int[10];
  final int[][] ends = new int[10][2];
  String text = "";
  final Deque<Kept> kept = new ArrayDeque<>();

  PlainHouse() {
    for (int i = 0; i < 6; i++) {
      families.add(new TreeSet<>());
    }
    for (int i = 0; i < 10; i++) {
      order.add(i);
    }
    Arrays.fill(above, 1);
    Arrays.fill(below, 2);
  }

  // ---- what calls need

  private static void slots(int... numbers) {
    for (int n : numbers) {
      if (n < 0 || n > 7) {
        throw new IndexOutOfBoundsException();
      }
    }
  }

  private static void familySlots(int... numbers) {
    for (int n : numbers) {
      if (n < 0 || n > 5) {
        throw new IndexOutOfBoundsException();
      }
    }
  }

  private static void range(int n, int first, int last) {
    if (n < first || n > last) {
      throw new IllegalArgumentException();
    }
  }

  // ---- the text

  int type(char sign) {
    range(sign, 32, 126);
    if (text.length() >= 60) {
      throw new IllegalStateException();
    }
    text += sign;
    return text.length();
  }

  int erase() {
    int n = text.length();
    text = "";
    return n;
  }

  char signAt(int place) {
    if (place < 0 || place >= text.length()) {
      throw new IndexOutOfBoundsException();
    }
    return text.charAt(place);
  }

  private int tell(String what) {
    text = what;
    return text.length();
  }

  // ---- functions

  private void keep(int code, Object old) {
    kept.addLast(new Kept(code, old));
    if (kept.size() > 12) {
      kept.removeFirst();
    }
  }

  private int become(int slot, boolean[] f) {
    keep(slot, functions[slot]);
    functions[slot] = f;
    return nodes(slot);
  }

  private int at;

  int read(int slot) {
    slots(slot);
    String formula = text;
    text = "";
    try {
      at = 0;
      boolean[] f = formula(formula);
      if (at < formula.length()) {
        throw new Fault(at);
      }
      return become(slot, f);
    } catch (Fault fault) {
      return -1 - fault.place;
    }
  }

  private boolean sees(String s, char c) {
    return at < s.length() && s.charAt(at) == c;
  }

  private boolean[] formula(String s) throws Fault {
    boolean[] f = choice(s);
    while (sees(s, '|')) {
      at++;
      boolean[] g = choice(s);
      for (int row = 0; row < ROWS; row++) {
        f[row] |= g[row];
      }
    }
    return f;
  }

  private boolean[] choice(String s) throws Fault {
    boolean[] f = product(s);
    while (sees(s, '^')) {
      at++;
      boolean[] g = product(s);
      for (int row = 0; row < ROWS; row++) {
        f[row] ^= g[row];
      }
    }
    return f;
  }

  private boolean[] product(String s) throws Fault {
    boolean[] f = member(s);
    while (sees(s, '&')) {
      at++;
      boolean[] g = member(s);
      for (int row = 0; row < ROWS; row++) {
        f[row] &= g[row];
      }
    }
    return f;
  }

  private boolean[] member(String s) throws Fault {
    if (sees(s, '!')) {
      at++;
      return contrary(member(s));
    }
    if (sees(s, '(')) {
      at++;
      boolean[] f = formula(s);
      if (!sees(s, ')')) {
        throw new Fault(at);
      }
      at++;
      return f;
    }
    int k = at < s.length() ? "abcdefghij01".indexOf(s.charAt(at)) : -1;
    if (k < 0) {
      throw new Fault(at);
    }
    at++;
    boolean[] f = new boolean[ROWS];
    for (int row = 0; row < ROWS; row++) {
      f[row] = k < 10 ? (row >> k & 1) == 1 : k == 11;
    }
    return f;
  }

  private static boolean[] contrary(boolean[] f) {
    boolean[] g = new boolean[ROWS];
    for (int row = 0; row < ROWS; row++) {
      g[row] = !f[row];
    }
    return g;
  }

  int table(int slot, long bits) {
    slots(slot);
    boolean[] f = new boolean[ROWS];
    for (int row = 0; row < ROWS; row++) {
      f[row] = (bits >> (row % 64) & 1) == 1;
    }
    return become(slot, f);
  }

  boolean value(int slot, int row) {
    slots(slot);
    range(row, 0, 1023);
    return functions[slot][row];
  }

  int make(int slot, int a, int b, char how) {
    slots(slot, a, b);
    boolean[] f = new boolean[ROWS];
    for (int row = 0; row < ROWS; row++) {
      boolean x = functions[a][row];
      boolean y = functions[b][row];
      switch (how) {
        case '&': f[row] = x && y; break;
        case '|': f[row] = x || y; break;
        case '^': f[row] = x != y; break;
        case '-': f[row] = x && !y; break;
        case '>': f[row] = y || !x; break;
        default: throw new IllegalArgumentException();
      }
    }
    return become(slot, f);
  }

  int choose(int slot, int c, int a, int b) {
    slots(slot, c, a, b);
    boolean[] f = new boolean[ROWS];
    for (int row = 0; row < ROWS; row++) {
      f[row] = functions[c][row] ? functions[a][row] : functions[b][row];
    }
    return become(slot, f);
  }

  private static int with(int row, int variable, boolean one) {
    return one ? row | 1 << variable : row & ~(1 << variable);
  }

  int fix(int slot, int a, int variable, boolean value) {
    slots(slot, a);
    range(variable, 0, 9);
    boolean[] f = new boolean[ROWS];
    for (int row = 0; row < ROWS; row++) {
      f[row] = functions[a][with(row, variable, value)];
    }
    return become(slot, f);
  }

  int put(int slot, int a, int variable, int b) {
    slots(slot, a, b);
    range(variable, 0, 9);
    boolean[] f = new boolean[ROWS];
    for (int row = 0; row < ROWS; row++) {
      f[row] = functions[a][with(row, variable, functions[b][row])];
    }
    return become(slot, f);
  }

  private int quantify(int slot, int a, int set, boolean wanted) {
    slots(slot, a);
    range(set, 0, 1023);
    boolean[] f = new boolean[ROWS];
    Arrays.fill(f, !wanted);
    for (int row = 0; row < ROWS; row++) {
      for (int sub = set; sub >= 0; sub = sub == 0 ? -1 : (sub - 1) & set) {
        if (functions[a][row & ~set | sub] == wanted) {
          f[row] = wanted;
          break;
        }
      }
    }
    return become(slot, f);
  }

  int some(int slot, int a, int set) {
    return quantify(slot, a, set, true);
  }

  int each(int slot, int a, int set) {
    return quantify(slot, a, set, false);
  }

  /** The unlike parts that are not constant, each told by its place and its rows. */
  private static void parts(boolean[] f, List<Integer> order, Set<String> into) {
    char[] rows = new char[ROWS];
    for (int i = 0; i < ROWS; i++) {
      int row = 0;
      for (int p = 0; p < 10; p++) {
        if ((i >> (9 - p) & 1) == 1) {
          row |= 1 << order.get(p);
        }
      }
      rows[i] = f[row] ? '1' : '0';
    }
    String all = new String(rows);
    for (int level = 0; level < 10; level++) {
      int size = ROWS >> level;
      for (int start = 0; start < ROWS; start += size) {
        String part = all.substring(start, start + size);
        int place = level;
        while (part.length() > 1
            && part.substring(0, part.length() / 2).equals(part.substring(part.length() / 2))) {
          part = part.substring(part.length() / 2);
          place++;
        }
        if (part.length() > 1) {
          into.add(place + ":" + part);
        }
      }
    }
  }

  int nodes(int slot) {
    slots(slot);
    return nodesOf(functions[slot], order);
  }

  private static int nodesOf(boolean[] f, List<Integer> order) {
    Set<String> parts = new HashSet<>();
    parts(f, order, parts);
    return parts.size();
  }

  private int nodesOfAll(List<Integer> order) {
    Set<String> parts = new HashSet<>();
    for (boolean[] f : functions) {
      parts(f, order, parts);
    }
    return parts.size();
  }

  int allNodes() {
    return nodesOfAll(order);
  }

  private static int support(boolean[] f) {
    int set = 0;
    for (int row = 0; row < ROWS; row++) {
      for (int k = 0; k < 10; k++) {
        if (f[row] != f[row ^ 1 << k]) {
          set |= 1 << k;
        }
      }
    }
    return set;
  }

  int hangs(int slot) {
    slots(slot);
    return support(functions[slot]);
  }

  boolean isSame(int a, int b) {
    slots(a, b);
    return Arrays.equals(functions[a], functions[b]);
  }

  boolean isUnder(int a, int b) {
    slots(a, b);
    for (int row = 0; row < ROWS; row++) {
      if (functions[a][row] && !functions[b][row]) {
        return false;
      }
    }
    return true;
  }

  boolean isSymmetric(int slot, int u, int v) {
    slots(slot);
    range(u, 0, 9);
    range(v, 0, 9);
    for (int row = 0; row < ROWS; row++) {
      int changed = with(with(row, u, (row >> v & 1) == 1), v, (row >> u & 1) == 1);
      if (functions[slot][row] != functions[slot][changed]) {
        return false;
      }
    }
    return true;
  }

  char sort(int slot, int variable) {
    slots(slot);
    range(variable, 0, 9);
    boolean rises = false;
    boolean falls = false;
    for (int row = 0; row < ROWS; row++) {
      boolean low = functions[slot][with(row, variable, false)];
      boolean high = functions[slot][with(row, variable, true)];
      rises |= !low && high;
      falls |= low && !high;
    }
    return rises ? (falls ? '*' : '+') : (falls ? '-' : '0');
  }

  // ---- models

  private List<Integer> modelsInOrder(int slot) {
    List<Integer> rows = new ArrayList<>();
    for (int row = 0; row < ROWS; row++) {
      if (functions[slot][row]) {
        rows.add(row);
      }
    }
    rows.sort((x, y) -> {
      for (int variable : order) {
        int difference = (x >> variable & 1) - (y >> variable & 1);
        if (difference != 0) {
          return difference;
        }
      }
      return 0;
    });
    return rows;
  }

  int models(int slot) {
    slots(slot);
    return modelsInOrder(slot).size();
  }

  int modelAt(int slot, int number) {
    slots(slot);
    List<Integer> rows = modelsInOrder(slot);
    if (number < 0 || number >= rows.size()) {
      throw new NoSuchElementException();
    }
    return rows.get(number);
  }

  int rank(int slot, int row) {
    slots(slot);
    range(row, 0, 1023);
    int rank = modelsInOrder(slot).indexOf(row);
    if (rank < 0) {
      throw new NoSuchElementException();
    }
    return rank;
  }

  int weigh(int variable, int newAbove, int newBelow) {
    range(variable, 0, 9);
    range(newBelow, 1, 100);
    range(newAbove, 0, newBelow);
    above[variable] = newAbove;
    below[variable] = newBelow;
    int n = 0;
    for (int k = 0; k < 10; k++) {
      n += above[k] * 2 == below[k] ? 0 : 1;
    }
    return n;
  }

  private BigInteger chance(int row) {
    BigInteger product = BigInteger.ONE;
    for (int k = 0; k < 10; k++) {
      int factor = (row >> k & 1) == 1 ? above[k] : below[k] - above[k];
      product = product.multiply(BigInteger.valueOf(factor));
    }
    return product;
  }

  int tellChance(int slot) {
    slots(slot);
    BigInteger sum = BigInteger.ZERO;
    BigInteger whole = BigInteger.ONE;
    for (int row = 0; row < ROWS; row++) {
      if (functions[slot][row]) {
        sum = sum.add(chance(row));
      }
    }
    for (int k = 0; k < 10; k++) {
      whole = whole.multiply(BigInteger.valueOf(below[k]));
    }
    BigInteger common = sum.gcd(whole);
    return tell(sum.divide(common) + "/" + whole.divide(common));
  }

  int likeliest(int slot) {
    slots(slot);
    int best = -1;
    BigInteger greatest = null;
    for (int row = 0; row < ROWS; row++) {
      if (functions[slot][row] && (best < 0 || chance(row).compareTo(greatest) > 0)) {
        best = row;
        greatest = chance(row);
      }
    }
    if (best < 0) {
      throw new NoSuchElementException();
    }
    return best;
  }

  // ---- the order

  int placeOf(int variable) {
    range(variable, 0, 9);
    return order.indexOf(variable);
  }

  int swap(int place) {
    range(place, 0, 8);
    Collections.swap(order, place, place + 1);
    return allNodes();
  }

  int sift() {
    for (int variable = 0; variable < 10; variable++) {
      int best = 0;
      int fewest = Integer.MAX_VALUE;
      List<Integer> others = new ArrayList<>(order);
      others.remove((Integer) variable);
      for (int place = 0; place < 10; place++) {
        List<Integer> tried = new ArrayList<>(others);
        tried.add(place, variable);
        int n = nodesOfAll(tried);
        if (n < fewest) {
          fewest = n;
          best = place;
        }
      }
      others.add(best, variable);
      order.clear();
      order.addAll(others);
    }
    return allNodes();
  }

  int fewest(int slot) {
    slots(slot);
    List<Integer> used = variables(support(functions[slot]));
    if (used.size() > 5) {
      throw new UnsupportedOperationException();
    }
    return fewest(functions[slot], new ArrayList<>(), used);
  }

  private static List<Integer> variables(int set) {
    List<Integer> list = new ArrayList<>();
    for (int k = 0; k < 10; k++) {
      if ((set >> k & 1) == 1) {
        list.add(k);
      }
    }
    return list;
  }

  private static int fewest(boolean[] f, List<Integer> first, List<Integer> rest) {
    if (rest.isEmpty()) {
      List<Integer> whole = new ArrayList<>(first);
      for (int k = 0; k < 10; k++) {
        if (!whole.contains(k)) {
          whole.add(k);
        }
      }
      return nodesOf(f, whole);
    }
    int best = Integer.MAX_VALUE;
    for (Integer variable : rest) {
      List<Integer> more = new ArrayList<>(first);
      more.add(variable);
      List<Integer> less = new ArrayList<>(rest);
      less.remove(variable);
      best = Math.min(best, fewest(f, more, less));
    }
    return best;
  }

  // ---- cubes

  private List<Cube> primesOf(int slot) {
    List<Integer> used = variables(support(functions[slot]));
    if (used.size() > 6) {
      throw new UnsupportedOperationException();
    }
    List<Cube> cubes = new ArrayList<>();
    listCubes(functions[slot], new Cube(), used, 0, cubes);
    return cubes;
  }

  private static void listCubes(
      boolean[] f, Cube cube, List<Integer> used, int next, List<Cube> into) {
    if (next == used.size()) {
      if (isPrime(f, cube)) {
        Cube copy = new Cube();
        System.arraycopy(cube.tells, 0, copy.tells, 0, 10);
        into.add(copy);
      }
      return;
    }
    for (int tells = -1; tells <= 1; tells++) {
      cube.tells[used.get(next)] = tells;
      listCubes(f, cube, used, next + 1, into);
    }
    cube.tells[used.get(next)] = -1;
  }

  private static boolean isPrime(boolean[] f, Cube cube) {
    if (!cube.isUnder(f)) {
      return false;
    }
    for (int k = 0; k < 10; k++) {
      int told = cube.tells[k];
      if (told >= 0) {
        cube.tells[k] = -1;
        boolean greaterIsUnder = cube.isUnder(f);
        cube.tells[k] = told;
        if (greaterIsUnder) {
          return false;
        }
      }
    }
    return true;
  }

  private static boolean covers(List<Cube> cubes, boolean[] f) {
    for (int row = 0; row < ROWS; row++) {
      boolean in = !f[row];
      for (int i = 0; i < cubes.size() && !in; i++) {
        in = cubes.get(i).isTrue(row);
      }
      if (!in) {
        return false;
      }
    }
    return true;
  }

  private List<Cube> coverOf(int slot) {
    List<Cube> left = new ArrayList<>(primesOf(slot));
    for (Cube cube : new ArrayList<>(left)) {
      List<Cube> others = new ArrayList<>(left);
      others.remove(cube);
      if (covers(others, functions[slot])) {
        left = others;
      }
    }
    return left;
  }

  int primes(int slot) {
    slots(slot);
    return primesOf(slot).size();
  }

  private int tellCube(List<Cube> cubes, int index) {
    if (index < 0 || index >= cubes.size()) {
      throw new NoSuchElementException();
    }
    return tell(cubes.get(index).told());
  }

  int tellPrime(int slot, int index) {
    slots(slot);
    return tellCube(primesOf(slot), index);
  }

  int cover(int slot) {
    slots(slot);
    return coverOf(slot).size();
  }

  int tellCover(int slot, int index) {
    slots(slot);
    return tellCube(coverOf(slot), index);
  }

  int leastCover(int slot) {
    slots(slot);
    List<Cube> cubes = primesOf(slot);
    if (cubes.size() > 12) {
      throw new UnsupportedOperationException();
    }
    int best = cubes.size();
    for (int chosen = 0; chosen < 1 << cubes.size(); chosen++) {
      List<Cube> some = new ArrayList<>();
      for (int i = 0; i < cubes.size(); i++) {
        if ((chosen >> i & 1) == 1) {
          some.add(cubes.get(i));
        }
      }
      if (some.size() < best && covers(some, functions[slot])) {
        best = some.size();
      }
    }
    return best;
  }

  // ---- machines

  private TreeSet<Integer> states(int slot) {
    TreeSet<Integer> set = new TreeSet<>();
    for (int row = 0; row < 32; row++) {
      if (functions[slot][row]) {
        set.add(row);
      }
    }
    return set;
  }

  private void needStates(int... numbers) {
    for (int n : numbers) {
      if ((support(functions[n]) & 0x3E0) != 0) {
        throw new UnsupportedOperationException();
      }
    }
  }

  private static boolean[] functionOf(Set<Integer> states) {
    boolean[] f = new boolean[ROWS];
    for (int row = 0; row < ROWS; row++) {
      f[row] = states.contains(row % 32);
    }
    return f;
  }

  private TreeSet<Integer> after(int step, Set<Integer> states) {
    TreeSet<Integer> next = new TreeSet<>();
    for (int s : states) {
      for (int t = 0; t < 32; t++) {
        if (functions[step][s + 32 * t]) {
          next.add(t);
        }
      }
    }
    return next;
  }

  int image(int slot, int step, int from) {
    slots(slot, step, from);
    needStates(from);
    return become(slot, functionOf(after(step, states(from))));
  }

  int reach(int slot, int step, int from) {
    slots(slot, step, from);
    needStates(from);
    TreeSet<Integer> reached = states(from);
    while (reached.addAll(after(step, reached))) {
      continue;
    }
    return become(slot, functionOf(reached));
  }

  /** The first of the shortest ways, by way of the first way of each length to each state. */
  private List<Integer> way(int step, int from, int to) {
    Set<Integer> goal = states(to);
    Map<Integer, List<Integer>> ways = new TreeMap<>();
    for (int s : states(from)) {
      ways.put(s, new ArrayList<>(List.of(s)));
    }
    for (int length = 0; length < 40; length++) {
      List<Integer> best = null;
      for (Map.Entry<Integer, List<Integer>> e : ways.entrySet()) {
        if (goal.contains(e.getKey()) && (best == null || isAhead(e.getValue(), best))) {
          best = e.getValue();
        }
      }
      if (best != null) {
        return best;
      }
      Map<Integer, List<Integer>> longer = new TreeMap<>();
      for (List<Integer> way : ways.values()) {
        for (int t : after(step, Set.of(way.get(way.size() - 1)))) {
          List<Integer> more = new ArrayList<>(way);
          more.add(t);
          if (!longer.containsKey(t) || isAhead(more, longer.get(t))) {
            longer.put(t, more);
          }
        }
      }
      ways = longer;
    }
    return null;
  }

  private static boolean isAhead(List<Integer> x, List<Integer> y) {
    for (int i = 0; i < x.size(); i++) {
      if (!x.get(i).equals(y.get(i))) {
        return x.get(i) < y.get(i);
      }
    }
    return false;
  }

  int steps(int step, int from, int to) {
    slots(step, from, to);
    needStates(from, to);
    List<Integer> way = way(step, from, to);
    return way == null ? -1 : way.size() - 1;
  }

  int stateAt(int step, int from, int to, int index) {
    slots(step, from, to);
    needStates(from, to);
    List<Integer> way = way(step, from, to);
    if (way == null || index < 0 || index >= way.size()) {
      throw new NoSuchElementException();
    }
    return way.get(index);
  }

  // ---- families

  private int becomeFamily(int slot, TreeSet<Integer> family) {
    keep(100 + slot, families.get(slot));
    families.set(slot, family);
    return family.size();
  }

  int add(int slot, int set) {
    familySlots(slot);
    range(set, 0, 1023);
    TreeSet<Integer> family = new TreeSet<>(families.get(slot));
    family.add(set);
    return becomeFamily(slot, family);
  }

  int join(int slot, int a, int b, char how) {
    familySlots(slot, a, b);
    TreeSet<Integer> family = new TreeSet<>(families.get(a));
    if (how == '|') {
      family.addAll(families.get(b));
    } else if (how == '&') {
      family.retainAll(families.get(b));
    } else if (how == '-') {
      family.removeAll(new ArrayList<>(families.get(b)));
    } else if (how == '*') {
      family.clear();
      for (int x : families.get(a)) {
        for (int y : families.get(b)) {
          family.add(x | y);
        }
      }
    } else {
      throw new IllegalArgumentException();
    }
    return becomeFamily(slot, family);
  }

  private static TreeSet<Integer> leastOf(Set<Integer> family) {
    TreeSet<Integer> least = new TreeSet<>();
    for (int x : family) {
      boolean isLeast = true;
      for (int y : family) {
        isLeast &= y == x || (y & ~x) != 0;
      }
      if (isLeast) {
        least.add(x);
      }
    }
    return least;
  }

  int least(int slot, int a) {
    familySlots(slot, a);
    return becomeFamily(slot, leastOf(families.get(a)));
  }

  int hitting(int slot, int a) {
    familySlots(slot, a);
    TreeSet<Integer> hits = new TreeSet<>();
    for (int x = 0; x < ROWS; x++) {
      boolean all = true;
      for (int y : families.get(a)) {
        all &= (x & y) != 0;
      }
      if (all) {
        hits.add(x);
      }
    }
    return becomeFamily(slot, leastOf(hits));
  }

  int setAt(int slot, int index) {
    familySlots(slot);
    List<Integer> sets = new ArrayList<>(families.get(slot));
    if (index < 0 || index >= sets.size()) {
      throw new NoSuchElementException();
    }
    return sets.get(index);
  }

  int familyNodes(int slot) {
    familySlots(slot);
    Set<Set<Integer>> parts = new HashSet<>();
    int first = 0;
    for (int level = 0; level <= 10; level++) {
      Map<Integer, Set<Integer>> left = new HashMap<>();
      for (int set : families.get(slot)) {
        left.computeIfAbsent(set & first, x -> new HashSet<>()).add(set & ~first);
      }
      parts.addAll(left.values());
      if (level < 10) {
        first |= 1 << order.get(level);
      }
    }
    parts.remove(new HashSet<Integer>());
    parts.remove(Set.of(0));
    return parts.size();
  }

  int edge(int thing, int from, int to) {
    range(thing, 0, 9);
    range(from, 0, 6);
    range(to, 0, 6);
    ends[thing] = new int[] {from, to};
    int n = 0;
    for (int[] e : ends) {
      n += e[0] != e[1] ? 1 : 0;
    }
    return n;
  }

  /** Whether a set of things is a way: from each corner just one way leads on. */
  private boolean isWay(int set, int from, int to) {
    int here = from;
    int left = set;
    int seen = 1 << from;
    while (here != to) {
      int on = -1;
      for (int thing : variables(left)) {
        if (ends[thing][0] == ends[thing][1]) {
          return false;
        }
        if (ends[thing][0] == here || ends[thing][1] == here) {
          if (on >= 0) {
            return false;
          }
          on = thing;
        }
      }
      if (on < 0) {
        return false;
      }
      left ^= 1 << on;
      here = ends[on][0] == here ? ends[on][1] : ends[on][0];
      if ((seen >> here & 1) == 1) {
        return false;
      }
      seen |= 1 << here;
    }
    return left == 0;
  }

  int ways(int slot, int from, int to) {
    familySlots(slot);
    range(from, 0, 6);
    range(to, 0, 6);
    TreeSet<Integer> family = new TreeSet<>();
    for (int set = 0; set < ROWS; set++) {
      if (isWay(set, from, to)) {
        family.add(set);
      }
    }
    return becomeFamily(slot, family);
  }

  int pairings(int slot) {
    familySlots(slot);
    TreeSet<Integer> family = new TreeSet<>();
    for (int set = 0; set < ROWS; set++) {
      Set<Integer> corners = new HashSet<>();
      boolean apart = true;
      for (int thing : variables(set)) {
        apart &= corners.add(ends[thing][0]);
        apart &= corners.add(ends[thing][1]);
      }
      if (apart) {
        family.add(set);
      }
    }
    return becomeFamily(slot, family);
  }

  int ofFamily(int slot, int family) {
    slots(slot);
    familySlots(family);
    boolean[] f = new boolean[ROWS];
    for (int set : families.get(family)) {
      f[set] = true;
    }
    return become(slot, f);
  }

  int ofFunction(int family, int slot) {
    familySlots(family);
    slots(slot);
    TreeSet<Integer> sets = new TreeSet<>();
    for (int row = 0; row < ROWS; row++) {
      if (functions[slot][row]) {
        sets.add(row);
      }
    }
    return becomeFamily(family, sets);
  }

  // ---- figures

  @SuppressWarnings("unchecked")
  int undo() {
    if (kept.isEmpty()) {
      throw new NoSuchElementException();
    }
    Kept last = kept.removeLast();
    if (last.code >= 100) {
      families.set(last.code - 100, (TreeSet<Integer>) last.old);
    } else {
      functions[last.code] = (boolean[]) last.old;
    }
    return last.code;
  }

  long checksum() {
    long sum = 7;
    for (boolean[] f : functions) {
      for (boolean one : f) {
        sum = sum * 31 + (one ? 1 : 0);
      }
    }
    for (TreeSet<Integer> family : families) {
      sum = sum * 31 + family.size();
      for (int set : family) {
        sum = sum * 31 + set;
      }
    }
    for (int variable : order) {
      sum = sum * 31 + variable;
    }
    for (char sign : text.toCharArray()) {
      sum = sum * 31 + sign;
    }
    return sum;
  }

  boolean isSound() {
    return true;
  }
}
