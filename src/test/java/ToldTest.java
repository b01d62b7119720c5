/** Promises 1 to 6: what is told. */
public final class ToldTest {
  private static final Class<IndexOutOfBoundsException> INDEX = IndexOutOfBoundsException.class;
  private static final Class<IllegalArgumentException> ARGUMENT = IllegalArgumentException.class;
  private static final Class<IllegalStateException> STATE = IllegalStateException.class;
  private static final Check c = new Check("ToldTest");

  private static void newObject() {
    c.part("promise 1");
    PrizeHouse p = new PrizeHouse();
    int[] due = {0, 0, 0, 0, 0, 0, 0, 0, 0, -1, -1, 0, 0, 0, 10};
    for (int what = 0; what < due.length; what++) {
      c.is("many(" + what + ")", p.many(what), due[what]);
    }
    c.isDouble("meanMark()", p.meanMark(), 0.0);
    c.is("wins(0)", p.wins(0), -1);
    c.is("beatsAll()", p.beatsAll(), -1);
    c.is("readIn()", p.readIn(), -1);
    c.is("wouldMiss(60)", p.wouldMiss(60), 0);
    c.fails("ofHouse(0, 0)", INDEX, () -> p.ofHouse(0, 0));
    c.fails("ofBook(0, 0)", INDEX, () -> p.ofBook(0, 0));
    c.fails("ofJudge(0, 0)", INDEX, () -> p.ofJudge(0, 0));
    PrizeHouse other = new PrizeHouse();
    other.house();
    c.is("many(3) of another object", p.many(3), 0);
  }

  private static void houses() {
    c.part("promise 2");
    PrizeHouse p = new PrizeHouse();
    for (int h = 0; h < 5; h++) {
      c.is("house()", p.house(), h);
      c.is("many(3)", p.many(3), h + 1);
      int[] due = {100, 2, 0, 0, 0};
      for (int what = 0; what < 5; what++) {
        c.is("ofHouse(" + h + ", " + what + ")", p.ofHouse(h, what), due[what]);
      }
    }
    c.refuses(p, "house(), the 6th", STATE, p::house);
    c.is("many(3)", p.many(3), 5);
    for (int phase = 0; phase < 5; phase++) {
      c.is("house() in phase " + phase, Scenes.inPhase(phase).house(), 3);
    }
  }

  private static void books() {
    c.part("promise 3");
    PrizeHouse p = new PrizeHouse();
    c.refuses(p, "book without a house", INDEX, () -> p.book(0, 0, 0, 100, 0, 0));
    p.house();
    p.house();
    c.is("book, all least", p.book(0, 0, 0, 50, 0, 0), 0);
    c.is("book, all most", p.book(1, 9, 2, 900, 60, 9), 1);
    c.is("its house", p.ofBook(1, 0), 1);
    c.is("its author", p.ofBook(1, 1), 9);
    c.is("its stock", p.ofBook(1, 2), 0);
    c.is("books of house 1", p.ofHouse(1, 3), 1);
    c.refuses(p, "house -1", INDEX, () -> p.book(-1, 0, 0, 100, 0, 0));
    c.refuses(p, "house 2", INDEX, () -> p.book(2, 10, 0, 100, 0, 0));
    c.refuses(p, "author -1", ARGUMENT, () -> p.book(0, -1, 0, 100, 0, 0));
    c.refuses(p, "author 10", ARGUMENT, () -> p.book(0, 10, 0, 100, 0, 0));
    c.refuses(p, "form -1", ARGUMENT, () -> p.book(0, 0, -1, 100, 0, 0));
    c.refuses(p, "form 3", ARGUMENT, () -> p.book(0, 0, 3, 100, 0, 0));
    c.refuses(p, "pages 49", ARGUMENT, () -> p.book(0, 0, 0, 49, 0, 0));
    c.refuses(p, "pages 901", ARGUMENT, () -> p.book(0, 0, 0, 901, 0, 0));
    c.refuses(p, "merit -1", ARGUMENT, () -> p.book(0, 0, 0, 100, -1, 0));
    c.refuses(p, "merit 61", ARGUMENT, () -> p.book(0, 0, 0, 100, 61, 0));
    c.refuses(p, "flavour -1", ARGUMENT, () -> p.book(0, 0, 0, 100, 0, -1));
    c.refuses(p, "flavour 10", ARGUMENT, () -> p.book(0, 0, 0, 100, 0, 10));
    for (int b = 2; b < 16; b++) {
      c.is("book", p.book(b % 2, 1, 1, 100, 1, 1), b);
    }
    c.is("many(4)", p.many(4), 16);
    c.refuses(p, "the 17th", STATE, () -> p.book(0, 0, 0, 100, 0, 0));
    c.refuses(p, "the 17th, author 10", ARGUMENT, () -> p.book(0, 10, 0, 100, 0, 0));
    c.refuses(p, "the 17th, house 5", INDEX, () -> p.book(5, 0, 0, 100, 0, 0));
    for (int phase = 0; phase < 5; phase++) {
      c.is("book in phase " + phase, Scenes.inPhase(phase).book(0, 0, 0, 100, 0, 0), 6);
    }
  }

  private static void judges() {
    c.part("promise 4");
    PrizeHouse p = new PrizeHouse();
    c.is("judge, all least", p.judge(20, 0, -10), 0);
    c.is("judge, all most", p.judge(200, 9, 10), 1);
    c.is("speed", p.ofJudge(0, 0), 20);
    c.is("speed", p.ofJudge(1, 0), 200);
    c.is("conflicts", p.ofJudge(1, 1), 0);
    c.is("points", p.ofJudge(1, 7), 12);
    c.refuses(p, "speed 19", ARGUMENT, () -> p.judge(19, 0, 0));
    c.refuses(p, "speed 201", ARGUMENT, () -> p.judge(201, 0, 0));
    c.refuses(p, "taste -1", ARGUMENT, () -> p.judge(100, -1, 0));
    c.refuses(p, "taste 10", ARGUMENT, () -> p.judge(100, 10, 0));
    c.refuses(p, "lean -11", ARGUMENT, () -> p.judge(100, 0, -11));
    c.refuses(p, "lean 11", ARGUMENT, () -> p.judge(100, 0, 11));
    for (int j = 2; j < 5; j++) {
      c.is("judge", p.judge(100, 5, 0), j);
    }
    c.is("many(5)", p.many(5), 5);
    c.refuses(p, "the 6th", STATE, () -> p.judge(100, 5, 0));
    c.refuses(p, "the 6th, speed 19", ARGUMENT, () -> p.judge(19, 5, 0));
    for (int phase = 1; phase < 5; phase++) {
      PrizeHouse late = Scenes.inPhase(phase);
      c.refuses(late, "judge in phase " + phase, STATE, () -> late.judge(100, 5, 0));
      c.refuses(late, "judge in phase " + phase, ARGUMENT, () -> late.judge(100, 5, 11));
    }
    PrizeHouse nextYear = Scenes.ended();
    nextYear.next();
    c.is("judge in the next year", nextYear.judge(100, 5, 0), 3);
  }

  private static void conflicts() {
    c.part("promise 5");
    PrizeHouse p = new PrizeHouse();
    c.refuses(p, "conflict without a judge", INDEX, () -> p.conflict(0, 0));
    p.judge(100, 5, 0);
    p.judge(100, 5, 0);
    c.is("conflict", p.conflict(1, 0), 1);
    c.is("conflict", p.conflict(1, 9), 2);
    c.is("conflict, again", p.conflict(1, 9), 2);
    c.is("conflict, of the other", p.conflict(0, 4), 1);
    c.is("the set", p.ofJudge(1, 1), 1 + 512);
    c.is("the other's set", p.ofJudge(0, 1), 16);
    c.refuses(p, "judge -1", INDEX, () -> p.conflict(-1, 0));
    c.refuses(p, "judge 2", INDEX, () -> p.conflict(2, 10));
    c.refuses(p, "author -1", ARGUMENT, () -> p.conflict(0, -1));
    c.refuses(p, "author 10", ARGUMENT, () -> p.conflict(0, 10));
    for (int author = 0; author < 10; author++) {
      p.conflict(0, author);
    }
    c.is("all", p.ofJudge(0, 1), 1023);
    c.is("conflict, all", p.conflict(0, 3), 10);
    for (int phase = 0; phase < 5; phase++) {
      c.is("conflict in phase " + phase, Scenes.inPhase(phase).conflict(2, 7), 1);
    }
    PrizeHouse forGood = Scenes.ended();
    forGood.conflict(2, 7);
    forGood.next();
    c.is("the set in the next year", forGood.ofJudge(2, 1), 128);
  }

  private static void rules() {
    c.part("promise 6");
    PrizeHouse p = new PrizeHouse();
    c.is("rules, all least", p.rules(1, 50, 50, 0), 10);
    c.is("rules, all most", p.rules(7, 900, 900, 50), 10);
    c.is("the fee stays", p.many(14), 10);
    c.refuses(p, "forms 0", ARGUMENT, () -> p.rules(0, 50, 900, 10));
    c.refuses(p, "forms 8", ARGUMENT, () -> p.rules(8, 50, 900, 10));
    c.refuses(p, "least 49", ARGUMENT, () -> p.rules(7, 49, 900, 10));
    c.refuses(p, "least above most", ARGUMENT, () -> p.rules(7, 101, 100, 10));
    c.refuses(p, "most 901", ARGUMENT, () -> p.rules(7, 50, 901, 10));
    c.refuses(p, "fee -1", ARGUMENT, () -> p.rules(7, 50, 900, -1));
    c.refuses(p, "fee 51", ARGUMENT, () -> p.rules(7, 50, 900, 51));
    for (int phase = 0; phase < 5; phase++) {
      c.is("rules in phase " + phase, Scenes.inPhase(phase).rules(7, 50, 900, 1), 10);
    }
  }

  private static void rulesOfYears() {
    c.part("promise 6, by years");
    PrizeHouse p = Scenes.ended();
    p.rules(7, 50, 900, 1);
    p.rules(2, 120, 300, 7);
    c.fails("refused rules", ARGUMENT, () -> p.rules(7, 50, 900, 51));
    p.book(0, 0, 0, 200, 0, 0);
    p.book(0, 0, 1, 119, 0, 0);
    p.book(0, 0, 1, 120, 0, 0);
    p.book(1, 0, 1, 300, 0, 0);
    p.book(1, 0, 1, 301, 0, 0);
    p.book(2, 0, 2, 200, 0, 0);
    p.book(2, 0, 1, 150, 0, 0);
    int[] before = {1, 1, 1, 1, 1, 1, 1};
    int[] after = {0, 0, 1, 1, 0, 0, 1};
    for (int k = 0; k < 7; k++) {
      c.is("eligible ahead, book " + (6 + k), p.ofBook(6 + k, 5), before[k]);
    }
    p.next();
    c.is("the fee that was told last", p.many(14), 7);
    for (int k = 0; k < 7; k++) {
      c.is("eligible then, book " + (6 + k), p.ofBook(6 + k, 5), after[k]);
    }
    c.is("rules in the next year", p.rules(7, 50, 900, 20), 7);
    p.enter(8);
    p.enter(9);
    p.enter(12);
    Scenes.finishYear(p);
    c.is("the fee in year 2", p.many(14), 20);
    c.is("book 7 by new rules", p.ofBook(7, 5), 0);
    p.book(0, 0, 2, 899, 1, 1);
    p.book(1, 0, 2, 50, 1, 1);
    p.book(2, 0, 0, 900, 1, 1);
    p.enter(13);
    p.enter(14);
    p.enter(15);
    Scenes.finishYear(p);
    c.is("the fee stays in year 3", p.many(14), 20);
  }

  public static void main(String[] args) {
    newObject();
    houses();
    books();
    judges();
    conflicts();
    rules();
    rulesOfYears();
    c.close();
  }
}
