/** Promises 15 to 18, sentence by sentence: the cases on both sides of each border that is named. */
public final class EdgeVotesTest {
  private static final Class<IndexOutOfBoundsException> INDEX = IndexOutOfBoundsException.class;
  private static final Class<IllegalArgumentException> ARGUMENT = IllegalArgumentException.class;
  private static final Class<IllegalStateException> STATE = IllegalStateException.class;
  private static final Check c = new Check("EdgeVotesTest");

  private static void voteRefused() {
    c.part("promise 15, \"if there is no such JUDGE\"");
    c.range(() -> Scenes.shortListed(3), "judge, of three", 0, 2, INDEX, (p, v) -> p.vote(v, 123));
    c.range(() -> Scenes.even(5, 3), "judge, of five", 0, 4, INDEX, (p, v) -> p.vote(v, 123));
    c.part("promise 15, \"if the PHASE is not 3\"");
    c.refusesIn(Scenes::ended, "phase 4", STATE, p -> p.vote(0, 123));
    c.refusesIn(Scenes::ended, "no order, phase 4", ARGUMENT, p -> p.vote(0, 122));
    c.part("promise 15, \"(without a shortlist none is)\"");
    for (int order : new int[] {0, 1, 12, 123, 12345}) {
      for (int phase = 0; phase < 3; phase++) {
        int then = phase;
        c.refusesIn(() -> Scenes.inPhase(then), order + " in phase " + phase, ARGUMENT,
            p -> p.vote(0, order));
      }
      c.refusesIn(EdgeVotesTest::noShortList, order + " of an empty shortlist", ARGUMENT,
          p -> p.vote(0, order));
      c.refusesIn(EdgeVotesTest::noWinner, order + ", phase 4", ARGUMENT, p -> p.vote(0, order));
    }
    c.refusesIn(Scenes::nextYear, "of the shortlist of the year ahead", ARGUMENT,
        p -> p.vote(0, 123));
    c.part("promise 15, the exception that is named first");
    c.refusesIn(() -> Scenes.shortListed(3), "judge, order", INDEX, p -> p.vote(3, 124));
    c.refusesIn(Scenes::ended, "judge, phase", INDEX, p -> p.vote(3, 123));
    c.refusesIn(() -> Scenes.inPhase(0), "judge, order, phase", INDEX, p -> p.vote(-1, 0));
  }

  private static PrizeHouse noShortList() {
    PrizeHouse p = Scenes.disowned();
    p.longList(3);
    p.shortList(2);
    return p;
  }

  private static PrizeHouse noWinner() {
    PrizeHouse p = noShortList();
    p.end();
    return p;
  }

  /** A shortlist of one to five books. */
  private static PrizeHouse listOf(int size) {
    if (size > 2) {
      return Scenes.even(3, size);
    }
    PrizeHouse p = Scenes.read();
    for (int j = 0; j < 3; j++) {
      for (int author = size; author < 6; author++) {
        p.conflict(j, author);
      }
    }
    p.longList(3);
    p.shortList(2);
    return p;
  }

  /** The other way round than the program does it: by the places, not by the digits. */
  private static boolean isOrder(int size, int number) {
    String digits = String.valueOf(number);
    boolean all = digits.length() == size;
    for (int place = 1; place <= size; place++) {
      all &= digits.indexOf('0' + place) >= 0;
    }
    return all;
  }

  private static void orders() {
    c.part("terms 3, \"a number of n digits, whose k-th ... is the place ... of the k-th best\"");
    int[] last = {20, 300, 4000, 50000, 60000};
    int[] due = {1, 2, 6, 24, 120};
    for (int size = 1; size <= 5; size++) {
      int taken = 0;
      int wrong = 0;
      PrizeHouse p = listOf(size);
      for (int order = -last[size - 1]; order <= last[size - 1]; order++) {
        if (order % 400 == 0) {
          p = listOf(size);
        }
        boolean asDue = takes(p, order) == isOrder(size, order);
        wrong += asDue ? 0 : 1;
        taken += isOrder(size, order) ? 1 : 0;
      }
      c.is("wrong ones of " + size, wrong, 0);
      c.is("orders of " + size, taken, due[size - 1]);
    }
    c.part("promise 15, \"if order is no such number\"");
    for (int order : new int[] {0, -123, 12, 1234, 122, 120, 124, 1123, 1230, 10123, 1000000123,
        Integer.MAX_VALUE, Integer.MIN_VALUE, 123 + (1 << 16), 123 + (1 << 24)}) {
      c.refusesIn(EdgeVotesTest::voted, "order " + order, ARGUMENT, p -> p.vote(0, order));
      c.refusesIn(EdgeVotesTest::voted, "order " + order, ARGUMENT, p -> p.vote(2, order));
    }
  }

  private static boolean takes(PrizeHouse p, int order) {
    try {
      p.vote(0, order);
      return true;
    } catch (IllegalArgumentException e) {
      return false;
    }
  }

  /** Judge 0 has an order by which book 1 wins, the other two have none. */
  private static PrizeHouse voted() {
    PrizeHouse p = Scenes.shortListed(3);
    p.vote(0, 231);
    return p;
  }

  private static void vote() {
    c.part("promise 15, \"how many ORDERS there are then\"");
    PrizeHouse p = Scenes.even(5, 3);
    int[] judges = {4, 0, 2, 1, 3};
    for (int k = 0; k < 5; k++) {
      c.is("vote", p.vote(judges[k], 123), k + 1);
      c.is("vote again", p.vote(judges[k], 123), k + 1);
    }
    c.part("promise 15, \"(again: in place of the former one)\"");
    PrizeHouse again = voted();
    c.is("the former one", again.wins(0), 1);
    c.is("again", again.vote(0, 312), 1);
    c.is("the one in its place", again.wins(0), 2);
    c.is("back", again.vote(0, 231), 1);
    c.is("the former one", again.wins(0), 1);
    PrizeHouse two = Scenes.told();
    Scenes.enterAll(two, 1, 3, 5);
    Scenes.readAll(two);
    two.longList(3);
    two.shortList(2);
    two.vote(0, 21);
    c.is("place 2 of books 1 and 3", two.wins(0), 3);
    two.vote(0, 12);
    c.is("place 1 of books 1 and 3", two.wins(0), 1);
    PrizeHouse byNumber = Scenes.shortListed(2);
    PrizeHouse byPoints = Scenes.longListed(8);
    byPoints.points(0, 5, 12);
    byPoints.shortList(2);
    byPoints.vote(0, 12);
    byNumber.vote(0, 12);
    c.is("places go by numbers, not by points", byPoints.wins(0), 0);
    c.is("places go by numbers", byNumber.wins(0), 0);
  }

  /** Who wins among so many books of even scores, by orders of judges; 0 stands for none. */
  private static int count(int books, int... orders) {
    PrizeHouse p = Scenes.even(Math.max(3, orders.length), books);
    for (int j = 0; j < orders.length; j++) {
      if (orders[j] != 0) {
        p.vote(j, orders[j]);
      }
    }
    int asked = p.wins(0);
    c.is("end() answers as wins(0)", p.end(), asked);
    return asked;
  }

  private static void majority() {
    c.part("terms 3, \"With more than half of all ORDERS that are for some, a BOOK wins\"");
    c.is("one of one", count(3, 321), 2);
    c.is("one of one, by the last judge", count(3, 0, 0, 0, 0, 312), 2);
    c.is("one of two", count(3, 321, 123), 0);
    c.is("two of three", count(3, 321, 123, 321), 2);
    c.is("two of four, the others come together", count(3, 321, 321, 123, 213), 0);
    c.is("two of four, the others do not", count(4, 4321, 4321, 1234, 2413), 3);
    c.is("three of four", count(3, 321, 321, 123, 321), 2);
    c.is("three of five", count(3, 321, 321, 123, 123, 321), 2);
    c.is("two of five, the others come together", count(3, 321, 321, 123, 123, 213), 0);
    c.is("five of five", count(5, 54321, 54321, 54321, 54321, 54321), 4);
    c.part("terms 3, \"Otherwise the one with the fewest is out\"");
    c.is("none ahead of one", count(3, 231, 321, 0), 1);
    c.is("one ahead of two", count(3, 132, 213, 213, 321, 321), 2);
    // Books 4, 2 and 0 are out, one in each round: then book 1 has three of five.
    c.is("one round behind the other", count(5, 12345, 21345, 32145, 43215, 54321), 1);
    // Book 3 is out, then book 1, whose order goes on behind book 3.
    c.is("behind one that is out", count(4, 1423, 1423, 2413, 3421, 4321), 0);
  }

  private static void ties() {
    c.part("terms 3, \"of several the one with the smaller SCORE\"");
    c.is("rising, 0 is out", ring(30, 31, 32), 2);
    c.is("0 is out", ring(30, 32, 31), 2);
    c.is("1 is out", ring(31, 30, 32), 0);
    c.is("falling, 2 is out", ring(32, 31, 30), 1);
    c.part("terms 3, \"then the one with the greater number\"");
    c.is("of 0 to 2, 2 is out", ring(30, 30, 30), 1);
    c.is("of 1 and 2, 2 is out", ring(31, 30, 30), 1);
    c.is("of 0 and 2, 2 is out", ring(30, 31, 30), 1);
    c.is("of 0 and 1, 1 is out", ring(30, 30, 31), 0);
    c.part("terms 3, scores below 0, and 0 without any, in a tie");
    // Marks are 80, 80 and 2: book 2 has a score of -20; by conflicts of all the others have 0.
    PrizeHouse low = lowScores();
    c.is("below 0", low.ofBook(2, 8), -20);
    low.shortList(5);
    for (int j = 0; j < 3; j++) {
      low.conflict(j, 0);
      low.conflict(j, 1);
    }
    c.is("0 without any", low.ofBook(0, 8), 0);
    c.is("0 is ahead of -20", low.wins(0), 0);
    c.is("0 is ahead of -20", low.spoiled(0), 1);
  }

  /** Books 0 and 1 of merit 60, book 2 of merit 0 and against all tastes; judges lean by 10. */
  private static PrizeHouse lowScores() {
    PrizeHouse p = Scenes.with(3, 0);
    for (int j = 0; j < 3; j++) {
      p.judge(200, 0, 10);
    }
    p.book(0, 0, 0, 100, 60, 0);
    p.book(1, 1, 0, 100, 60, 0);
    p.book(2, 2, 0, 100, 0, 9);
    Scenes.enterAll(p, 0, 1, 2);
    Scenes.readAll(p);
    p.longList(3);
    return p;
  }

  /** One order each: as 0 is out 2 wins, without 1 it is 0, and without 2 it is 1. */
  private static int ring(int... merits) {
    PrizeHouse p = Scenes.with(3, 3);
    for (int b = 0; b < 3; b++) {
      Scenes.tell(p, b, b, 100, merits[b]);
      p.enter(b);
    }
    Scenes.readAll(p);
    p.longList(3);
    p.shortList(3);
    p.vote(0, 132);
    p.vote(1, 213);
    p.vote(2, 321);
    return p.end();
  }

  private static void orderless() {
    c.part("terms 3, \"The last one wins in any case\"; \"(also without ORDERS)\"");
    c.is("even scores", count(5), 0);
    c.is("falling scores", Scenes.shortListed(5).end(), 0);
    PrizeHouse rising = Scenes.with(3, 3);
    for (int b = 0; b < 3; b++) {
      Scenes.tell(rising, b, b, 100, 30 + b);
      rising.enter(b);
    }
    Scenes.readAll(rising);
    rising.longList(3);
    rising.shortList(3);
    c.is("rising scores", rising.end(), 2);
    c.is("one book", listOf(1).end(), 0);
    PrizeHouse one = listOf(1);
    c.is("an order of one book", one.vote(0, 1), 1);
    c.is("there is an order", one.ofJudge(0, 6), 1);
    c.is("one book and an order", one.end(), 0);
    c.part("terms 3, \"(for none, if there is no such)\"");
    PrizeHouse all = Scenes.even(3, 3);
    for (int j = 0; j < 3; j++) {
      all.vote(j, 321);
      Scenes.disown(all, j);
    }
    c.is("all are for none, scores are 0", all.end(), 0);
    PrizeHouse some = Scenes.even(5, 3);
    int[] orders = {123, 123, 123, 321, 321};
    for (int j = 0; j < 5; j++) {
      some.vote(j, orders[j]);
    }
    c.is("three of five", some.wins(0), 0);
    Scenes.disown(some, 0);
    c.is("two of four", some.wins(0), 0);
    Scenes.disown(some, 1);
    c.is("two of three are more than half of those for some", some.wins(0), 2);
    c.part("terms 3, \"and not by an AUTHOR in CONFLICT with its JUDGE\"");
    PrizeHouse second = Scenes.even(3, 3);
    second.vote(0, 321);
    c.is("the best", second.wins(0), 2);
    second.conflict(0, 2);
    c.is("the second", second.wins(0), 1);
    second.conflict(0, 1);
    c.is("the third", second.wins(0), 0);
    second.conflict(1, 0);
    c.is("of another judge", second.wins(0), 0);
  }

  private static void end() {
    c.part("promise 16, \"if the PHASE is not 3\"");
    for (int phase : new int[] {0, 1, 2, 4}) {
      c.refusesIn(() -> Scenes.inPhase(phase), "phase " + phase, STATE, PrizeHouse::end);
    }
    c.refusesIn(Scenes::reading, "reading", STATE, PrizeHouse::end);
    c.refusesIn(Scenes::nextYear, "in the next year", STATE, PrizeHouse::end);
    c.part("promise 16, \"Returns the WINNER\"; NONE is -1");
    PrizeHouse none = noShortList();
    c.is("of an empty shortlist", none.end(), -1);
    c.is("phase", none.many(1), 4);
    c.is("winner", none.many(9), -1);
    PrizeHouse last = Scenes.fullEntered();
    Scenes.readAll(last);
    last.longList(8);
    last.shortList(5);
    for (int j = 0; j < 5; j++) {
      last.vote(j, 54321);
    }
    c.is("the greatest number there can be on a list", last.end(), 14);
    c.is("phase", last.many(1), 4);
    c.is("the set", last.many(8) >> 14, 1);
    PrizeHouse told = Scenes.ended();
    Scenes.disown(told, 0);
    c.is("what is told later changes no winner", told.many(9), 0);
  }

  private static void strip() {
    c.part("promise 17, \"if the PHASE is not 4\"");
    for (int phase = 0; phase < 4; phase++) {
      int then = phase;
      c.refusesIn(() -> Scenes.inPhase(then), "phase " + phase, STATE, PrizeHouse::strip);
    }
    c.refusesIn(Scenes::nextYear, "the winner of the year ahead", STATE, PrizeHouse::strip);
    c.part("promise 17, \"or there is none\"");
    c.refusesIn(EdgeVotesTest::noWinner, "of an empty shortlist", STATE, PrizeHouse::strip);
    c.refusesIn(EdgeVotesTest::allStripped, "all were", STATE, PrizeHouse::strip);
    c.part("terms 3, \"NONE, if nobody is left\"");
    PrizeHouse p = Scenes.shortListed(5);
    c.is("end", p.end(), 0);
    for (int k = 1; k < 5; k++) {
      c.is("the winner then", p.strip(), k);
      c.is("stripped", p.many(11), k);
      c.is("won by house " + k % 3, p.ofHouse(k % 3, 4), 1);
      c.is("not by that of " + (k - 1), p.ofHouse((k - 1) % 3, 4), 0);
    }
    c.is("nobody is left", p.strip(), -1);
    c.is("stripped", p.many(11), 5);
    c.is("winner", p.many(9), -1);
    for (int h = 0; h < 3; h++) {
      c.is("stripped ones not", p.ofHouse(h, 4), 0);
    }
    c.part("terms 3, \"it stays on its lists\"");
    c.is("shortlist", p.many(8), 31);
    c.is("longlist", p.many(7), 63);
    c.is("standing", p.ofBook(0, 7), 2);
    c.part("terms 3, \"by ORDERS and CONFLICTS as they are then\"");
    PrizeHouse orders = Scenes.even(3, 3);
    orders.vote(0, 132);
    c.is("end", orders.end(), 0);
    c.is("by an order of judge 0", orders.strip(), 2);
    PrizeHouse others = Scenes.even(3, 3);
    others.vote(1, 132);
    others.end();
    c.is("by an order of judge 1", others.strip(), 2);
    PrizeHouse conflicts = Scenes.even(3, 3);
    conflicts.vote(0, 132);
    conflicts.vote(1, 132);
    conflicts.end();
    conflicts.conflict(0, 2);
    conflicts.conflict(1, 2);
    c.is("by conflicts", conflicts.strip(), 1);
    c.is("the last one", conflicts.strip(), 2);
  }

  private static PrizeHouse allStripped() {
    PrizeHouse p = Scenes.ended();
    for (int k = 0; k < 3; k++) {
      p.strip();
    }
    return p;
  }

  private static void nextRefused() {
    c.part("promise 18, \"if the PHASE is not 4\"");
    for (int phase = 0; phase < 4; phase++) {
      int then = phase;
      c.refusesIn(() -> Scenes.inPhase(then), "phase " + phase, STATE, PrizeHouse::next);
    }
    c.refusesIn(Scenes::nextYear, "again", STATE, PrizeHouse::next);
    c.is("without a winner", noWinner().next(), 1);
    c.is("as all are stripped", allStripped().next(), 1);
    c.part("promise 18, \"or YEAR is 20\": 16 books make five years, and each of these is taken");
    PrizeHouse p = Scenes.with(5, 3);
    for (int year = 0; year < 5; year++) {
      for (int b = 3 * year; b < 3 * year + 3; b++) {
        Scenes.tell(p, b % 5, b % 10, 100, 20);
        p.enter(b);
      }
      Scenes.readAll(p);
      p.longList(3);
      p.shortList(3);
      c.is("winner of year " + year, p.end(), 3 * year);
      c.is("next", p.next(), year + 1);
      c.is("the winner of the year ahead", p.many(10), 3 * year);
    }
    c.is("the last book", Scenes.tell(p, 0, 0, 100, 20), 15);
    c.is("is entered", p.enter(15), 1);
    c.fails("three there cannot be", STATE, p::read);
  }

  private static void next() {
    c.part("terms 3, \"CRATES, MARKS, POINTS, ORDERS and both lists are gone (but for QUOTAS)\"");
    PrizeHouse p = Scenes.longListed(4);
    p.points(0, 1, 12);
    p.points(2, 3, 1);
    p.shortList(3);
    p.vote(0, 213);
    p.vote(2, 213);
    p.print(1, 100);
    p.end();
    p.pass(1);
    int day = p.many(2);
    c.is("next", p.next(), 1);
    int[] many = {1, 0, day, 3, 6, 3, 0, 0, 0, -1, 1};
    for (int what = 0; what < many.length; what++) {
      c.is("many(" + what + ")", p.many(what), many[what]);
    }
    for (int j = 0; j < 3; j++) {
      int[] judge = {200, 0, 0, 0, 0, 0, 0, 12};
      for (int what = 0; what < judge.length; what++) {
        c.is("ofJudge(" + j + ", " + what + ")", p.ofJudge(j, what), judge[what]);
      }
      for (int b = 0; b < 6; b++) {
        c.is("mark(" + j + ", " + b + ")", p.mark(j, b), -1);
      }
    }
    for (int b = 0; b < 6; b++) {
      int[] book = {b % 3, b, b == 1 ? 10 : 0, b == 1 ? 90 : 0};
      for (int what = 0; what < book.length; what++) {
        c.is("ofBook(" + b + ", " + what + ")", p.ofBook(b, what), book[what]);
      }
      for (int what = 5; what <= 10; what++) {
        c.is("ofBook(" + b + ", " + what + ")", p.ofBook(b, what), 0);
      }
    }
    int[] quotas = {4, 3, 3};
    for (int h = 0; h < 3; h++) {
      c.is("quota", p.ofHouse(h, 1), quotas[h]);
      c.is("used", p.ofHouse(h, 2), 0);
    }
    c.is("wins(0)", p.wins(0), -1);
    c.is("beatsAll()", p.beatsAll(), -1);
    c.is("readIn()", p.readIn(), -1);
    c.isDouble("meanMark()", p.meanMark(), 0.0);
    c.part("terms 2, \"of all BOOKS that this JUDGE has MARKED in this YEAR\"");
    int[] merits = {0, 30, 60};
    int[] scores = {200, 500, 800};
    for (int b = 6; b < 9; b++) {
      Scenes.tell(p, b % 3, b, 100, merits[b - 6]);
      p.enter(b);
    }
    Scenes.readAll(p);
    c.isDouble("meanMark() of the next year", p.meanMark(), 40.0);
    for (int b = 6; b < 9; b++) {
      c.is("score of book " + b, p.ofBook(b, 8), scores[b - 6]);
    }
    p.longList(3);
    c.is("12 points again", p.points(0, 6, 12), 0);
    p.shortList(3);
    c.is("no order of the year ahead", p.vote(1, 123), 1);
    c.is("that one alone", p.wins(0), 6);
  }

  public static void main(String[] args) {
    voteRefused();
    orders();
    vote();
    majority();
    ties();
    orderless();
    end();
    strip();
    nextRefused();
    next();
    c.close();
  }
}
