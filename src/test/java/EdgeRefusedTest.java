/**
 * "A method that throws an exception changes nothing", and what is answered with -2 or -3 "(nothing
 * is done)": each refusal there is, in each phase of two years, of a prize that has much to lose.
 */
public final class EdgeRefusedTest {
  private static final Class<IndexOutOfBoundsException> INDEX = IndexOutOfBoundsException.class;
  private static final Class<IllegalArgumentException> ARGUMENT = IllegalArgumentException.class;
  private static final Class<IllegalStateException> STATE = IllegalStateException.class;
  private static final Check c = new Check("EdgeRefusedTest");

  private static final int[] SPEEDS = {90, 150, 200, 120, 180};

  private static PrizeHouse founded() {
    PrizeHouse p = Scenes.with(5, 0);
    for (int j = 0; j < 5; j++) {
      p.judge(SPEEDS[j], 2 * j, 3 - j);
    }
    p.conflict(4, 2);
    return p;
  }

  /**
   * Books first to first + 5 are told; the first three are entered, and the next one is called in by
   * judge 1. The fifth is of the house of the first two, which has no quota left in year 0, and the
   * sixth has too few pages. Judge 4 is in conflict with the author of the third.
   */
  private static void entry(PrizeHouse p, int first) {
    int[] houses = {0, 0, 1, 2, 0, 3};
    for (int k = 0; k < 6; k++) {
      p.book(houses[k], k, k % 3, k == 5 ? 65 : 150 + 20 * k, 50 - 7 * k, 3 + k);
      p.print(first + k, 40 + k);
    }
    p.rules(5, 70, 850, 7);
    p.enter(first);
    p.enter(first + 1);
    p.callIn(1, first + 3);
  }

  private static void go(PrizeHouse p, int first, int phase) {
    if (phase > 0) {
      p.enter(first + 2);
      p.read();
      p.pass(2);
    }
    if (phase > 1) {
      Scenes.onDay(p, p.many(2) + p.readIn());
      p.longList(4);
      p.points(0, first, 5);
      p.points(0, first + 1, 4);
      p.points(1, first + 3, 12);
    }
    if (phase > 2) {
      p.shortList(3);
      p.vote(0, 321);
      p.vote(1, 231);
      p.vote(3, 213);
    }
    if (phase > 3) {
      p.end();
    }
  }

  private static PrizeHouse rich(int year, int phase) {
    PrizeHouse p = founded();
    if (year == 0) {
      entry(p, 0);
      go(p, 0, phase);
      return p;
    }
    entry(p, 0);
    p.rules(7, 70, 850, 7);
    go(p, 0, 4);
    p.strip();
    p.next();
    Scenes.tell(p, 4, 9, 100, 1);
    entry(p, 7);
    go(p, 7, phase);
    return p;
  }

  /** As rich in entry, but two are entered: one and one that was called in. */
  private static PrizeHouse scarce() {
    PrizeHouse p = founded();
    for (int b = 0; b < 3; b++) {
      Scenes.tell(p, 0, b, 150, 20 + b);
    }
    p.rules(5, 70, 850, 7);
    p.enter(0);
    p.callIn(1, 1);
    return p;
  }

  /** As rich in year 0, with ten more books told: 16 in all. */
  private static PrizeHouse crowded(int phase) {
    PrizeHouse p = rich(0, phase);
    for (int k = 0; k < 10; k++) {
      p.book(k % 5, k, k % 3, 100 + k, k, k);
    }
    return p;
  }

  private final Check.Scene scene;
  private final String where;
  private final int phase;
  private final int first;

  private EdgeRefusedTest(int year, int phase) {
    scene = () -> rich(year, phase);
    where = " in phase " + phase + " of year " + year;
    this.phase = phase;
    first = 7 * year;
  }

  private void refuses(String call, Class<? extends RuntimeException> due, Check.CallOn run) {
    c.refusesIn(scene, call + where, due, run);
  }

  private void declines(String call, int due, Check.CallOn run) {
    c.declinesIn(scene, call + where, due, run);
  }

  private void told() {
    refuses("the 6th house", STATE, PrizeHouse::house);
    refuses("book, house -1", INDEX, p -> p.book(-1, 0, 0, 100, 0, 0));
    refuses("book, house 5", INDEX, p -> p.book(5, 0, 0, 100, 0, 0));
    refuses("book, pages 901", ARGUMENT, p -> p.book(0, 0, 0, 901, 0, 0));
    refuses("judge, speed 19", ARGUMENT, p -> p.judge(19, 0, 0));
    refuses("the 6th judge", STATE, p -> p.judge(100, 0, 0));
    refuses("conflict, judge 5", INDEX, p -> p.conflict(5, 0));
    refuses("conflict, author 10", ARGUMENT, p -> p.conflict(0, 10));
    refuses("rules, forms 0", ARGUMENT, p -> p.rules(0, 50, 900, 1));
    refuses("rules, least 49", ARGUMENT, p -> p.rules(7, 49, 900, 1));
    refuses("rules, most 901", ARGUMENT, p -> p.rules(7, 50, 901, 1));
    refuses("rules, fee 51", ARGUMENT, p -> p.rules(7, 50, 900, 51));
  }

  private void doneByNone() {
    refuses("enter, book -1", INDEX, p -> p.enter(-1));
    refuses("callIn, judge 5", INDEX, p -> p.callIn(5, 0));
    refuses("callIn, book -1", INDEX, p -> p.callIn(0, -1));
    refuses("print, book -1", INDEX, p -> p.print(-1, 1));
    refuses("print, copies 0", ARGUMENT, p -> p.print(0, 0));
    refuses("print, copies 5001", ARGUMENT, p -> p.print(first, 5001));
    refuses("pass, days 0", ARGUMENT, p -> p.pass(0));
    refuses("pass, days 61", ARGUMENT, p -> p.pass(61));
    refuses("longList, many 2", ARGUMENT, p -> p.longList(2));
    refuses("longList, many 9", ARGUMENT, p -> p.longList(9));
    refuses("points, judge 5", INDEX, p -> p.points(5, first, 1));
    refuses("points, book 16", INDEX, p -> p.points(0, 16, 1));
    refuses("shortList, many 1", ARGUMENT, p -> p.shortList(1));
    refuses("shortList, many 6", ARGUMENT, p -> p.shortList(6));
    refuses("vote, judge 5", INDEX, p -> p.vote(5, 123));
    refuses("vote, order 122", ARGUMENT, p -> p.vote(0, 122));
    refuses("vote, order 1234", ARGUMENT, p -> p.vote(0, 1234));
  }

  private void doneInPhases() {
    if (phase == 0) {
      inEntry();
    } else {
      refuses("enter", STATE, p -> p.enter(first + 4));
      refuses("callIn", STATE, p -> p.callIn(0, first + 4));
      refuses("read", STATE, PrizeHouse::read);
    }
    refuses("longList", STATE, p -> p.longList(3));
    if (phase == 2) {
      refuses("13 points", ARGUMENT, p -> p.points(0, first, 13));
      refuses("13 points in all", STATE, p -> p.points(0, first, 9));
      refuses("points in conflict", STATE, p -> p.points(4, first + 2, 1));
      refuses("points for one not on it", INDEX, p -> p.points(0, first + 4, 1));
    } else {
      refuses("points", INDEX, p -> p.points(0, first, 1));
      refuses("shortList", STATE, p -> p.shortList(2));
    }
    if (phase != 3) {
      refuses("vote", phase == 4 ? STATE : ARGUMENT, p -> p.vote(0, 123));
      refuses("end", STATE, PrizeHouse::end);
    }
    if (phase != 4) {
      refuses("strip", STATE, PrizeHouse::strip);
      refuses("next", STATE, PrizeHouse::next);
    }
  }

  private void inEntry() {
    refuses("enter one that is entered", STATE, p -> p.enter(first));
    refuses("enter one that was called in", STATE, p -> p.enter(first + 3));
    refuses("call in one that is entered", STATE, p -> p.callIn(0, first));
    declines("enter, too few pages", -2, p -> p.enter(first + 5));
    declines("callIn, too few pages", -2, p -> p.callIn(0, first + 5));
    declines("callIn, a second one", -3, p -> p.callIn(1, first + 2));
    declines("callIn in conflict", -3, p -> p.callIn(4, first + 2));
    if (first == 0) {
      declines("enter without quota", -3, p -> p.enter(first + 4));
    } else {
      declines("enter one of the year ahead", -2, p -> p.enter(0));
      declines("call in one of the year ahead", -2, p -> p.callIn(0, 0));
    }
  }

  private void asked() {
    refuses("ofHouse, house 5", INDEX, p -> p.ofHouse(5, 0));
    refuses("ofHouse, what 5", ARGUMENT, p -> p.ofHouse(0, 5));
    refuses("ofBook, book -1", INDEX, p -> p.ofBook(-1, 0));
    refuses("ofBook, what 11", ARGUMENT, p -> p.ofBook(0, 11));
    refuses("ofJudge, judge 5", INDEX, p -> p.ofJudge(5, 0));
    refuses("ofJudge, what 8", ARGUMENT, p -> p.ofJudge(0, 8));
    refuses("mark, judge 5", INDEX, p -> p.mark(5, 0));
    refuses("mark, book 16", INDEX, p -> p.mark(0, 16));
    refuses("many, what 15", ARGUMENT, p -> p.many(15));
    refuses("wins, judges 32", ARGUMENT, p -> p.wins(32));
    refuses("spoiled, book 16", INDEX, p -> p.spoiled(16));
    refuses("wouldMiss, days 0", ARGUMENT, p -> p.wouldMiss(0));
    refuses("wouldMiss, days 61", ARGUMENT, p -> p.wouldMiss(61));
  }

  /** In year 0 and year 1 the states are as their stories tell: otherwise little would be shown. */
  private static void stories() {
    c.part("what the scenes hold");
    for (int year = 0; year < 2; year++) {
      for (int phase = 0; phase < 5; phase++) {
        PrizeHouse p = rich(year, phase);
        c.is("year", p.many(0), year);
        c.is("phase", p.many(1), phase);
        c.is("entered", p.many(6), phase == 0 ? 3 : 4);
        c.is("longlist", Integer.bitCount(p.many(7)), phase < 2 ? 0 : 4);
        c.is("shortlist", Integer.bitCount(p.many(8)), phase < 3 ? 0 : 3);
        c.is("an order", p.ofJudge(0, 6), phase < 3 ? 0 : 1);
        c.is("points left", p.ofJudge(0, 7), phase < 2 ? 12 : 3);
        c.is("stripped", p.many(11), year);
        c.is("fee", p.many(14), year == 0 ? 10 : 7);
      }
    }
    c.is("crates are not read", rich(0, 1).readIn() > 0 ? 1 : 0, 1);
    c.refusesIn(EdgeRefusedTest::scarce, "read with two books", STATE, PrizeHouse::read);
  }

  private static void lastBook() {
    c.part("a 17th book changes nothing");
    for (int phase = 0; phase < 5; phase++) {
      int then = phase;
      c.is("books", crowded(phase).many(4), 16);
      c.refusesIn(() -> crowded(then), "the 17th in phase " + phase, STATE,
          p -> p.book(0, 0, 0, 100, 0, 0));
    }
  }

  /** The days are over: crates that are not read stay so, but later phases can go on. */
  private static void lastDay() {
    c.part("a day above 9999 changes nothing");
    for (int phase = 0; phase < 5; phase++) {
      for (int year = 0; year < 2; year++) {
        int thenYear = year;
        int then = phase;
        c.refusesIn(() -> Scenes.onDay(rich(thenYear, then), 9999),
            "pass(1) in phase " + phase + " of year " + year, STATE, p -> p.pass(1));
      }
    }
  }

  public static void main(String[] args) {
    stories();
    lastBook();
    lastDay();
    for (int year = 0; year < 2; year++) {
      for (int phase = 0; phase < 5; phase++) {
        EdgeRefusedTest test = new EdgeRefusedTest(year, phase);
        c.part("a call that is refused changes nothing");
        test.told();
        test.doneByNone();
        test.doneInPhases();
        test.asked();
      }
    }
    c.close();
  }
}
