import java.util.ArrayList;
import java.util.List;

/** Long runs of calls, the same ones in each run of the test, answered as Model answers them. */
public final class ModelTest {
  private static final int RUNS = 2000;
  private static final int CALLS = 512;
  private static final String[] NAMES = {"house", "book", "judge", "conflict", "rules", "enter",
      "callIn", "read", "print", "pass", "longList", "points", "shortList", "vote", "end", "strip",
      "next", "ofHouse", "ofBook", "ofJudge", "mark", "many", "meanMark", "wins", "beatsAll",
      "spoiled", "readIn", "wouldMiss", "digest"};
  private static final int[] ARGUMENTS = {0, 6, 3, 2, 4, 1, 2, 0, 2, 1, 1, 3, 1, 2, 0, 0, 0, 2, 2,
      2, 2, 1, 0, 1, 0, 1, 0, 1, 0};
  private static final int[] EXTREME = {Integer.MIN_VALUE, Integer.MAX_VALUE, -1, 0, 1, 5, 12, 16,
      31, 32, 100, 900, 901, 12345, -12, 2147483641};

  private long seed;
  private final Model model = new Model();
  private final PrizeHouse prize = new PrizeHouse();
  private final List<String> told = new ArrayList<>();
  private final boolean quick;
  private final boolean quarrelsome;

  private ModelTest(int run) {
    seed = 7919L * run + 17;
    quick = run % 3 != 0;
    quarrelsome = run % 4 == 0;
  }

  /** SplitMix64: the runs are to be the same each time. */
  private int below(int bound) {
    seed += 0x9E3779B97F4A7C15L;
    long z = seed;
    z = (z ^ (z >>> 30)) * 0xBF58476D1CE4E5B9L;
    z = (z ^ (z >>> 27)) * 0x94D049BB133111EBL;
    return (int) Math.floorMod(z ^ (z >>> 31), (long) bound);
  }

  private int from(int least, int most) {
    return most <= least ? least : least + below(most - least + 1);
  }

  private static long ofProgram(PrizeHouse p, int kind, int[] a) {
    switch (kind) {
      case 0: return p.house();
      case 1: return p.book(a[0], a[1], a[2], a[3], a[4], a[5]);
      case 2: return p.judge(a[0], a[1], a[2]);
      case 3: return p.conflict(a[0], a[1]);
      case 4: return p.rules(a[0], a[1], a[2], a[3]);
      case 5: return p.enter(a[0]);
      case 6: return p.callIn(a[0], a[1]);
      case 7: return p.read();
      case 8: return p.print(a[0], a[1]);
      case 9: return p.pass(a[0]);
      case 10: return p.longList(a[0]);
      case 11: return p.points(a[0], a[1], a[2]);
      case 12: return p.shortList(a[0]);
      case 13: return p.vote(a[0], a[1]);
      case 14: return p.end();
      case 15: return p.strip();
      case 16: return p.next();
      case 17: return p.ofHouse(a[0], a[1]);
      case 18: return p.ofBook(a[0], a[1]);
      case 19: return p.ofJudge(a[0], a[1]);
      case 20: return p.mark(a[0], a[1]);
      case 21: return p.many(a[0]);
      case 22: return Double.doubleToLongBits(p.meanMark());
      case 23: return p.wins(a[0]);
      case 24: return p.beatsAll();
      case 25: return p.spoiled(a[0]);
      case 26: return p.readIn();
      case 27: return p.wouldMiss(a[0]);
      default: return p.digest();
    }
  }

  private static long ofModel(Model m, int kind, int[] a) {
    switch (kind) {
      case 0: return m.house();
      case 1: return m.book(a[0], a[1], a[2], a[3], a[4], a[5]);
      case 2: return m.judge(a[0], a[1], a[2]);
      case 3: return m.conflict(a[0], a[1]);
      case 4: return m.rules(a[0], a[1], a[2], a[3]);
      case 5: return m.enter(a[0]);
      case 6: return m.callIn(a[0], a[1]);
      case 7: return m.read();
      case 8: return m.print(a[0], a[1]);
      case 9: return m.pass(a[0]);
      case 10: return m.longList(a[0]);
      case 11: return m.points(a[0], a[1], a[2]);
      case 12: return m.shortList(a[0]);
      case 13: return m.vote(a[0], a[1]);
      case 14: return m.end();
      case 15: return m.strip();
      case 16: return m.next();
      case 17: return m.ofHouse(a[0], a[1]);
      case 18: return m.ofBook(a[0], a[1]);
      case 19: return m.ofJudge(a[0], a[1]);
      case 20: return m.mark(a[0], a[1]);
      case 21: return m.many(a[0]);
      case 22: return Double.doubleToLongBits(m.meanMark());
      case 23: return m.wins(a[0]);
      case 24: return m.beatsAll();
      case 25: return m.spoiled(a[0]);
      case 26: return m.readIn();
      case 27: return m.wouldMiss(a[0]);
      default: return m.digest();
    }
  }

  /** An answer, or the class of what was thrown: the very one, not one below it. */
  private String answer(boolean byProgram, int kind, int[] a) {
    try {
      return String.valueOf(byProgram ? ofProgram(prize, kind, a) : ofModel(model, kind, a));
    } catch (RuntimeException e) {
      return e.getClass().getName();
    }
  }

  private int book() {
    return from(0, Math.max(0, model.many(4) - 1));
  }

  private int judge() {
    return from(0, Math.max(0, model.many(5) - 1));
  }

  private int bookOf(int set) {
    int b = book();
    for (int k = 0; k < 16 && (set >> b & 1) == 0; k++) {
      b = book();
    }
    return b;
  }

  private int order() {
    int size = Integer.bitCount(model.many(8));
    List<Integer> places = new ArrayList<>();
    for (int p = 1; p <= size; p++) {
      places.add(from(0, places.size()), p);
    }
    int order = 0;
    for (int p : places) {
      order = order * 10 + p;
    }
    return below(12) == 0 ? order + from(-1, 1) * from(1, 1200) : order;
  }

  private int pages() {
    return below(6) == 0 ? from(45, 905) : quick ? from(90, 260) : from(100, 800);
  }

  private int[] arguments(int kind) {
    int wrong = below(40) == 0 ? 1 : 0;
    switch (kind) {
      case 1: return new int[] {from(0, model.many(3) - 1 + wrong), from(0, 9 + wrong),
          from(0, 2 + wrong), pages(), from(0, 60 + wrong), from(0, 9 + wrong)};
      case 2: return new int[] {quick ? from(100, 200 + wrong) : from(20 - wrong, 200),
          from(0, 9 + wrong), from(-10 - wrong, 10)};
      case 3: return new int[] {from(0, model.many(5) - 1 + wrong), from(0, 9 + wrong)};
      case 4: return new int[] {below(4) == 0 ? from(0, 8) : 7, from(49, 200), from(300, 901),
          from(0, 50 + wrong)};
      case 5: return new int[] {book() + wrong};
      case 6: return new int[] {judge() + wrong, book()};
      case 8: return new int[] {book() + wrong,
          below(4) == 0 ? from(0, 5001) : from(1, 400)};
      case 9: return new int[] {quick ? from(1 - wrong, 8) : from(1, 60 + wrong)};
      case 10: return new int[] {from(3 - wrong, 8 + wrong)};
      case 11: return new int[] {judge() + wrong, below(8) == 0 ? book() : bookOf(model.many(7)),
          below(3) == 0 ? from(0, 12 + wrong) : from(0, 4)};
      case 12: return new int[] {from(2 - wrong, 5 + wrong)};
      case 13: return new int[] {judge() + wrong, order()};
      case 17: return new int[] {from(0, model.many(3) - 1 + wrong), from(0, 4 + wrong)};
      case 18: return new int[] {book(), from(0, 10 + wrong)};
      case 19: return new int[] {judge(), from(0, 7 + wrong)};
      case 20: return new int[] {judge() + wrong, book()};
      case 21: return new int[] {from(0, 14 + wrong)};
      case 23: return new int[] {from(-wrong, 31 + wrong)};
      case 25: return new int[] {below(4) == 0 ? book() + wrong : bookOf(model.many(8))};
      case 27: return new int[] {from(1 - wrong, 60 + wrong)};
      default: return new int[0];
    }
  }

  private int[] extremeArguments(int kind) {
    int[] a = new int[ARGUMENTS[kind]];
    for (int k = 0; k < a.length; k++) {
      a[k] = below(3) == 0 ? EXTREME[below(EXTREME.length)] : from(0, 3);
    }
    return a;
  }

  private int oneOf(int... kinds) {
    return kinds[below(kinds.length)];
  }

  private int kindInPhase() {
    if (below(quarrelsome ? 12 : 150) == 0) {
      return 3;
    }
    switch (model.many(1)) {
      case 0: return model.many(6) >= from(3, 9)
          ? 7 : oneOf(0, 1, 1, 1, 2, 2, 4, 5, 5, 5, 5, 6, 6, 7, 8, 9);
      case 1: return oneOf(9, 9, 9, 8, 10, 26, 20, 22, 1);
      case 2: return oneOf(11, 11, 11, 11, 11, 11, 11, 11, 12, 9, 8);
      case 3: return oneOf(13, 13, 13, 13, 13, 13, 23, 24, 25, 14, 9, 8);
      default: return oneOf(15, 23, 24, 25, 9, 8, 16);
    }
  }

  private boolean same(int kind, int[] a) {
    String due = answer(false, kind, a);
    String got = answer(true, kind, a);
    StringBuilder call = new StringBuilder(NAMES[kind]);
    for (int v : a) {
      call.append(' ').append(v);
    }
    told.add(call.toString());
    if (!got.equals(due)) {
      System.out.println(String.join("; ", told) + " answered " + got + ", due is " + due);
      return false;
    }
    return true;
  }

  private boolean isAsModel() {
    for (int call = 0; call < CALLS; call += 2) {
      int kind = kindInPhase();
      int dice = below(30);
      if (dice == 0) {
        kind = below(NAMES.length);
      } else if (dice < 5) {
        kind = from(17, 27);
      }
      int[] a = below(60) == 0 ? extremeArguments(kind) : arguments(kind);
      if (!same(kind, a) || !same(28, a)) {
        return false;
      }
    }
    return true;
  }

  public static void main(String[] args) {
    int wrong = 0;
    int[] years = new int[21];
    for (int run = 0; run < RUNS && wrong < 3; run++) {
      ModelTest test = new ModelTest(run);
      wrong += test.isAsModel() ? 0 : 1;
      years[test.model.many(0)]++;
    }
    System.out.println("ModelTest: " + RUNS + " runs, " + wrong + " not as the model; years reached "
        + java.util.Arrays.toString(years));
    System.exit(wrong == 0 ? 0 : 1);
  }
}
