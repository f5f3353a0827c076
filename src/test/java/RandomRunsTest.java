import java.io.IOException;
import java.util.ArrayList;
import java.util.Collections;
import java.util.LinkedHashSet;
import java.util.List;
import java.util.Set;
import java.util.TreeSet;

/**
 * Runs of calls of all kinds, drawn from a fixed row of numbers, on the class and on the plain
 * house: each run is as many calls on one object as the document speaks for, no more and no less.
 */
public final class RandomRunsTest {
  private static final int CALLS_OF_A_RUN = 512;
  /** So many that each kind of call is the last one of several runs. */
  private static final int ENOUGH_RUNS = 208;
  /** How many calls go ahead of each look at the sum, from run to run. */
  private static final int[] PAUSES = {1, 5, 40, 80};
  /** What is drawn from, each kind of call at least once. */
  private static final String[] CALLS = {
    "type", "erase", "signAt", "read", "read", "read", "read", "table", "table", "value", "make",
    "make", "choose", "fix", "put", "some", "each", "nodes", "allNodes", "hangs", "isSame",
    "isUnder", "isSymmetric", "sort", "models", "modelAt", "rank", "weigh", "weigh", "tellChance",
    "likeliest", "placeOf", "swap", "swap", "sift", "fewest", "primes", "tellPrime", "cover",
    "tellCover", "leastCover", "image", "reach", "steps", "stateAt", "add", "add", "add", "join",
    "join", "least", "hitting", "setAt", "familyNodes", "edge", "edge", "edge", "ways", "pairings",
    "ofFamily", "ofFunction", "undo", "isSound", "checksum"
  };
  private static final List<String> KINDS = List.copyOf(new TreeSet<>(List.of(CALLS)));

  private long state;
  private Forkhouse house;
  private PlainHouse plain;
  private int letters;
  private int pause;
  /** The kind of call that alone is let through at the end of a run, or "". */
  private String only;
  private int sinceSum;
  private final List<String> log = new ArrayList<>();
  /** The calls and what they threw, or "answers", of all runs. */
  private final Set<String> seen = new TreeSet<>();

  private RandomRunsTest(long seed) {
    state = seed;
  }

  private int below(int bound) {
    state = state * 6364136223846793005L + 1442695040888963407L;
    return (int) ((state >>> 33) % bound);
  }

  /** Mostly a number from 0 on, at times one next to these, or far off. */
  private int number(int end) {
    int kind = below(40);
    if (kind == 0) {
      return below(2) == 0 ? -1 : end;
    }
    if (kind == 1 && below(4) == 0) {
      return below(2) == 0 ? Integer.MIN_VALUE : Integer.MAX_VALUE;
    }
    return below(end);
  }

  private int slot() {
    return number(8);
  }

  private int family() {
    return number(6);
  }

  private int set() {
    return below(3) == 0 ? number(1024) : below(8) == 0 ? 0 : 1 << below(10) | 1 << below(10);
  }

  private long word() {
    switch (below(4)) {
      case 0:
        return (long) below(1 << 30) << 34 ^ (long) below(1 << 30) << 15 ^ below(1 << 30);
      case 1:
        return below(65536) * 0x0001000100010001L;
      case 2:
        return below(256) * 0x0101010101010101L;
      default:
        return below(2) == 0 ? 1L << below(64) : -1L ^ 1L << below(64);
    }
  }

  private String formula(int depth) {
    StringBuilder s = new StringBuilder();
    int members = 1 + below(4);
    for (int i = 0; i < members; i++) {
      if (i > 0) {
        s.append("&|^&|".charAt(below(5)));
      }
      while (below(4) == 0) {
        s.append('!');
      }
      if (depth > 0 && below(3) == 0) {
        s.append('(').append(formula(depth - 1)).append(')');
      } else if (below(15) == 0) {
        s.append(below(2));
      } else {
        s.append((char) ('a' + below(letters)));
      }
    }
    if (below(40) == 0) {
      s.setCharAt(below(s.length()), "()!&|^ab01k ~J".charAt(below(14)));
    }
    return s.toString();
  }

  private void both(String what, Check.Call ours, Check.Call due) {
    int end = only.isEmpty() ? CALLS_OF_A_RUN - 1 : CALLS_OF_A_RUN;
    if (log.size() < end && (only.isEmpty() || only.equals(nameOf(what)))) {
      compare(what, ours, due);
      sinceSum++;
    }
    if (log.size() < end && sinceSum >= pause) {
      compare("checksum", () -> house.checksum(), () -> plain.checksum());
      sinceSum = 0;
    }
  }

  private void compare(String what, Check.Call ours, Check.Call due) {
    log.add(what);
    String got = Check.outcome(ours);
    String want = Check.outcome(due);
    int wrongBefore = Check.wrong();
    Check.same(what, got, want);
    if (Check.wrong() != wrongBefore && wrongBefore == 0) {
      System.out.println("the run: " + log);
    }
    String end = want.startsWith("throws.") ? want.substring("throws.".length()) : "answers";
    seen.add(nameOf(what) + " " + end);
  }

  private static String nameOf(String what) {
    int space = what.indexOf(' ');
    return space < 0 ? what : what.substring(0, space);
  }

  private void typeAll(String formula) {
    for (char sign : formula.toCharArray()) {
      both("type " + sign, () -> house.type(sign), () -> plain.type(sign));
    }
  }

  private void call(String name) {
    final int s = slot();
    final int a = slot();
    final int b = slot();
    final int c = slot();
    final int f = family();
    final int g = family();
    final int h = family();
    final int k = number(10);
    final int m = number(10);
    final int n = set();
    final int i = below(5) == 0 ? number(1024) : number(8);
    switch (name) {
      case "type": {
        char sign = (char) (below(4) == 0 ? number(300) : 32 + below(95));
        // At times until the text is full.
        for (int times = below(20) == 0 ? 61 : 1; times > 0; times--) {
          both("type " + (int) sign, () -> house.type(sign), () -> plain.type(sign));
        }
        break;
      }
      case "erase": both("erase", () -> house.erase(), () -> plain.erase()); break;
      case "signAt": both("signAt " + i, () -> house.signAt(i), () -> plain.signAt(i)); break;
      case "read": {
        if (below(3) > 0) {
          both("erase", () -> house.erase(), () -> plain.erase());
          typeAll(formula(2));
        }
        both("read " + s, () -> house.read(s), () -> plain.read(s));
        break;
      }
      case "table": {
        long w = word();
        both("table " + s + " " + w, () -> house.table(s, w), () -> plain.table(s, w));
        break;
      }
      case "value": both("value " + s + " " + n, () -> house.value(s, n), () -> plain.value(s, n)); break;
      case "make": {
        char how = below(30) == 0 ? (char) below(128) : "&|^->".charAt(below(5));
        both("make " + s + " " + a + " " + b + " " + how,
            () -> house.make(s, a, b, how), () -> plain.make(s, a, b, how));
        break;
      }
      case "choose":
        both("choose " + s + " " + c + " " + a + " " + b,
            () -> house.choose(s, c, a, b), () -> plain.choose(s, c, a, b));
        break;
      case "fix": {
        boolean value = below(2) == 0;
        both("fix " + s + " " + a + " " + k + " " + value,
            () -> house.fix(s, a, k, value), () -> plain.fix(s, a, k, value));
        break;
      }
      case "put":
        both("put " + s + " " + a + " " + k + " " + b,
            () -> house.put(s, a, k, b), () -> plain.put(s, a, k, b));
        break;
      case "some":
        both("some " + s + " " + a + " " + n, () -> house.some(s, a, n), () -> plain.some(s, a, n));
        break;
      case "each":
        both("each " + s + " " + a + " " + n, () -> house.each(s, a, n), () -> plain.each(s, a, n));
        break;
      case "nodes": both("nodes " + s, () -> house.nodes(s), () -> plain.nodes(s)); break;
      case "allNodes": both("allNodes", () -> house.allNodes(), () -> plain.allNodes()); break;
      case "hangs": both("hangs " + s, () -> house.hangs(s), () -> plain.hangs(s)); break;
      case "isSame": both("isSame " + a + " " + b, () -> house.isSame(a, b), () -> plain.isSame(a, b)); break;
      case "isUnder": both("isUnder " + a + " " + b, () -> house.isUnder(a, b), () -> plain.isUnder(a, b)); break;
      case "isSymmetric":
        both("isSymmetric " + s + " " + k + " " + m,
            () -> house.isSymmetric(s, k, m), () -> plain.isSymmetric(s, k, m));
        break;
      case "sort": both("sort " + s + " " + k, () -> house.sort(s, k), () -> plain.sort(s, k)); break;
      default: callMore(name, s, a, b, k, n, i);
    }
  }

  private void callMore(String name, int s, int a, int b, int k, int n, int i) {
    switch (name) {
      case "models": both("models " + s, () -> house.models(s), () -> plain.models(s)); break;
      case "modelAt": both("modelAt " + s + " " + i, () -> house.modelAt(s, i), () -> plain.modelAt(s, i)); break;
      case "rank": both("rank " + s + " " + n, () -> house.rank(s, n), () -> plain.rank(s, n)); break;
      case "weigh": {
        int below = 1 + number(100);
        int above = below(20) == 0 ? -1 : below > 0 ? below(below + (below(10) == 0 ? 2 : 1)) : 0;
        both("weigh " + k + " " + above + " " + below,
            () -> house.weigh(k, above, below), () -> plain.weigh(k, above, below));
        break;
      }
      case "tellChance": {
        both("tellChance " + s, () -> house.tellChance(s), () -> plain.tellChance(s));
        both("signAt " + i, () -> house.signAt(i), () -> plain.signAt(i));
        break;
      }
      case "likeliest": both("likeliest " + s, () -> house.likeliest(s), () -> plain.likeliest(s)); break;
      case "placeOf": both("placeOf " + k, () -> house.placeOf(k), () -> plain.placeOf(k)); break;
      case "swap": {
        int place = number(9);
        both("swap " + place, () -> house.swap(place), () -> plain.swap(place));
        break;
      }
      case "sift": both("sift", () -> house.sift(), () -> plain.sift()); break;
      case "fewest": both("fewest " + s, () -> house.fewest(s), () -> plain.fewest(s)); break;
      case "primes": both("primes " + s, () -> house.primes(s), () -> plain.primes(s)); break;
      case "tellPrime":
        both("tellPrime " + s + " " + i, () -> house.tellPrime(s, i), () -> plain.tellPrime(s, i));
        break;
      case "cover": both("cover " + s, () -> house.cover(s), () -> plain.cover(s)); break;
      case "tellCover":
        both("tellCover " + s + " " + i, () -> house.tellCover(s, i), () -> plain.tellCover(s, i));
        break;
      case "leastCover": both("leastCover " + s, () -> house.leastCover(s), () -> plain.leastCover(s)); break;
      case "image":
      case "reach":
      case "steps":
      case "stateAt": callMachine(name, s, a, b, i); break;
      default: callFamilies(name, s, i);
    }
  }

  private void callMachine(String name, int s, int a, int b, int i) {
    // Most functions are no sets of states: two that are told make machines run at all.
    int from = b;
    int to = s;
    if (below(4) > 0) {
      from = below(8);
      to = below(8);
      states(from);
      states(to);
    }
    final int x = from;
    final int y = to;
    switch (name) {
      case "image":
        both("image " + s + " " + a + " " + x, () -> house.image(s, a, x), () -> plain.image(s, a, x));
        break;
      case "reach":
        both("reach " + s + " " + a + " " + x, () -> house.reach(s, a, x), () -> plain.reach(s, a, x));
        break;
      case "steps":
        both("steps " + a + " " + x + " " + y, () -> house.steps(a, x, y), () -> plain.steps(a, x, y));
        break;
      default:
        for (int place = -1; place < 4 + i % 3; place++) {
          final int p = place;
          both("stateAt " + a + " " + x + " " + y + " " + p,
              () -> house.stateAt(a, x, y, p), () -> plain.stateAt(a, x, y, p));
        }
    }
  }

  private void states(int slot) {
    if (below(3) == 0) {
      return;
    }
    long half = below(2) == 0 ? 1L << below(32) : 1L << below(32) | 1L << below(32) | 1L << below(32);
    long w = half | half << 32;
    both("table " + slot + " " + w, () -> house.table(slot, w), () -> plain.table(slot, w));
  }

  /** A step from states to a few others, made of families' sets, which are rows then. */
  private void machine(int slot) {
    int moves = 1 + below(60);
    for (int i = 0; i < moves; i++) {
      int row = below(1024);
      both("add 5 " + row, () -> house.add(5, row), () -> plain.add(5, row));
    }
    both("ofFamily " + slot + " 5", () -> house.ofFamily(slot, 5), () -> plain.ofFamily(slot, 5));
    both("join 5 5 5 -", () -> house.join(5, 5, 5, '-'), () -> plain.join(5, 5, 5, '-'));
  }

  private void callFamilies(String name, int s, int i) {
    final int f = family();
    final int g = family();
    final int h = family();
    final int from = number(7);
    final int to = number(7);
    final int n = set();
    final int k = number(10);
    switch (name) {
      case "add": both("add " + f + " " + n, () -> house.add(f, n), () -> plain.add(f, n)); break;
      case "join": {
        char how = below(30) == 0 ? (char) below(128) : "|&-**".charAt(below(5));
        both("join " + f + " " + g + " " + h + " " + how,
            () -> house.join(f, g, h, how), () -> plain.join(f, g, h, how));
        break;
      }
      case "least": both("least " + f + " " + g, () -> house.least(f, g), () -> plain.least(f, g)); break;
      case "hitting": both("hitting " + f + " " + g, () -> house.hitting(f, g), () -> plain.hitting(f, g)); break;
      case "setAt": both("setAt " + f + " " + i, () -> house.setAt(f, i), () -> plain.setAt(f, i)); break;
      case "familyNodes": both("familyNodes " + f, () -> house.familyNodes(f), () -> plain.familyNodes(f)); break;
      case "edge":
        both("edge " + k + " " + from + " " + to,
            () -> house.edge(k, from, to), () -> plain.edge(k, from, to));
        break;
      case "ways":
        both("ways " + f + " " + from + " " + to,
            () -> house.ways(f, from, to), () -> plain.ways(f, from, to));
        break;
      case "pairings": both("pairings " + f, () -> house.pairings(f), () -> plain.pairings(f)); break;
      case "ofFamily":
        both("ofFamily " + s + " " + f, () -> house.ofFamily(s, f), () -> plain.ofFamily(s, f));
        break;
      case "ofFunction":
        both("ofFunction " + f + " " + s, () -> house.ofFunction(f, s), () -> plain.ofFunction(f, s));
        break;
      case "undo": both("undo", () -> house.undo(), () -> plain.undo()); break;
      case "isSound": both("isSound", () -> house.isSound(), () -> plain.isSound()); break;
      default: both("checksum", () -> house.checksum(), () -> plain.checksum());
    }
  }

  /** First each kind once, then kinds as they are drawn, in an order that is drawn too. */
  private List<String> deck(boolean isFirst) {
    List<String> names = new ArrayList<>(List.of(CALLS));
    if (isFirst) {
      names = new ArrayList<>(new LinkedHashSet<>(names));
    } else if (below(6) > 0) {
      // The plain house takes its time to sift.
      names.remove("sift");
    }
    for (int size = names.size(); size > 1; size--) {
      Collections.swap(names, size - 1, below(size));
    }
    return names;
  }

  private void run(int newPause, String lastKind) {
    house = new Forkhouse();
    plain = new PlainHouse();
    pause = newPause;
    only = "";
    sinceSum = 0;
    log.clear();
    letters = 2 + below(9);
    boolean isFirst = true;
    while (log.size() < CALLS_OF_A_RUN - 1) {
      for (String name : deck(isFirst)) {
        if (!isFirst && below(60) == 0) {
          machine(below(8));
        }
        call(name);
      }
      isFirst = false;
    }
    only = lastKind;
    while (log.size() < CALLS_OF_A_RUN) {
      call(lastKind);
    }
    Check.same("calls of a run", log.size(), CALLS_OF_A_RUN);
    Set<String> kinds = new TreeSet<>();
    for (String what : log) {
      kinds.add(nameOf(what));
    }
    Check.same("kinds of calls in a run", kinds, new TreeSet<>(KINDS));
  }

  /** Each call has answered, and has thrown each exception that is documented for it. */
  private void allWasSeen() throws IOException {
    Document document = new Document();
    for (String name : KINDS) {
      Check.same("some run has: " + name + " answers", seen.contains(name + " answers"), true);
      for (String exception : document.exceptionsOf(name)) {
        String end = name + " " + exception;
        Check.same("some run has: " + end, seen.contains(end), true);
      }
    }
  }

  public static void main(String[] args) throws IOException {
    int runs = args.length > 0 ? Integer.parseInt(args[0]) : ENOUGH_RUNS;
    long seed = args.length > 1 ? Long.parseLong(args[1]) : 1;
    RandomRunsTest test = new RandomRunsTest(seed);
    for (int i = 0; i < runs && Check.wrong() == 0; i++) {
      String lastKind = i % 2 == 0 ? "checksum" : KINDS.get(i / 2 % KINDS.size());
      test.run(PAUSES[i % PAUSES.length], lastKind);
    }
    if (runs >= ENOUGH_RUNS) {
      test.allWasSeen();
    }
    Check.end("RandomRunsTest");
  }
}
