/** Promises 1 to 6, sentence by sentence: the cases on both sides of each border that is named. */
public final class EdgeToldTest {
  private static final Class<IndexOutOfBoundsException> INDEX = IndexOutOfBoundsException.class;
  private static final Class<IllegalArgumentException> ARGUMENT = IllegalArgumentException.class;
  private static final Class<IllegalStateException> STATE = IllegalStateException.class;
  private static final Check c = new Check("EdgeToldTest");

  private static void newObject() {
    c.part("promise 1, \"Creates a prize without HOUSES\"");
    PrizeHouse p = new PrizeHouse();
    c.is("houses", p.many(3), 0);
    c.is("the first house is number 0", p.house(), 0);
    c.part("promise 1, what a prize without anything refuses");
    Check.Scene none = PrizeHouse::new;
    c.refusesIn(none, "book", INDEX, q -> q.book(0, 0, 0, 100, 0, 0));
    c.refusesIn(none, "conflict", INDEX, q -> q.conflict(0, 0));
    c.refusesIn(none, "enter", INDEX, q -> q.enter(0));
    c.refusesIn(none, "callIn", INDEX, q -> q.callIn(0, 0));
    c.refusesIn(none, "read", STATE, PrizeHouse::read);
    c.refusesIn(none, "print", INDEX, q -> q.print(0, 1));
    c.refusesIn(none, "longList", STATE, q -> q.longList(3));
    c.refusesIn(none, "points", INDEX, q -> q.points(0, 0, 0));
    c.refusesIn(none, "shortList", STATE, q -> q.shortList(2));
    c.refusesIn(none, "vote", INDEX, q -> q.vote(0, 1));
    c.refusesIn(none, "end", STATE, PrizeHouse::end);
    c.refusesIn(none, "strip", STATE, PrizeHouse::strip);
    c.refusesIn(none, "next", STATE, PrizeHouse::next);
    c.refusesIn(none, "ofHouse", INDEX, q -> q.ofHouse(0, 0));
    c.refusesIn(none, "ofBook", INDEX, q -> q.ofBook(0, 0));
    c.refusesIn(none, "ofJudge", INDEX, q -> q.ofJudge(0, 0));
    c.refusesIn(none, "mark", INDEX, q -> q.mark(0, 0));
    c.refusesIn(none, "spoiled", INDEX, q -> q.spoiled(0));
  }

  private static void houses() {
    c.part("promise 2, \"if there are 5\"");
    c.takesIn(() -> Scenes.with(4, 0), "the 5th", PrizeHouse::house);
    c.refusesIn(() -> Scenes.with(5, 0), "the 6th", STATE, PrizeHouse::house);
    c.refusesIn(Scenes::full, "the 6th of a full prize", STATE, PrizeHouse::house);
    c.part("terms 1, \"numbered from 0\"");
    PrizeHouse p = new PrizeHouse();
    for (int h = 0; h < 5; h++) {
      c.is("house", p.house(), h);
    }
  }

  private static void booksOfHouses() {
    c.part("promise 3, \"if there is no such HOUSE\"");
    c.range(() -> Scenes.with(1, 0), "house, of one", 0, 0, INDEX,
        (p, v) -> p.book(v, 0, 0, 100, 0, 0));
    c.range(() -> Scenes.with(5, 0), "house, of five", 0, 4, INDEX,
        (p, v) -> p.book(v, 0, 0, 100, 0, 0));
    c.part("promise 3, \"if there were 16\"");
    PrizeHouse p = Scenes.with(1, 0);
    for (int b = 0; b < 16; b++) {
      c.is("book", p.book(0, 0, 0, 100, 0, 0), b);
    }
    c.refusesIn(Scenes::full, "the 17th", STATE, q -> q.book(0, 0, 0, 100, 0, 0));
    c.part("terms 1, \"at most 16 ever\"");
    c.refusesIn(EdgeToldTest::fullLater, "the 17th in the next year", STATE,
        q -> q.book(0, 0, 0, 100, 0, 0));
    c.part("promise 3, the exception that is named first");
    c.refusesIn(Scenes::full, "house, author, 17th", INDEX, q -> q.book(5, 10, 0, 100, 0, 0));
    c.refusesIn(Scenes::full, "house, 17th", INDEX, q -> q.book(-1, 0, 0, 100, 0, 0));
    c.refusesIn(Scenes::full, "flavour, 17th", ARGUMENT, q -> q.book(0, 0, 0, 100, 0, 10));
    c.refusesIn(Scenes::told, "house, pages", INDEX, q -> q.book(3, 0, 0, 901, 0, 0));
  }

  private static PrizeHouse fullLater() {
    PrizeHouse p = Scenes.fullEntered();
    Scenes.finishYear(p);
    return p;
  }

  private static void booksByArguments() {
    c.part("promise 3, \"author is not 0 to 9\"");
    c.range(Scenes::told, "author", 0, 9, ARGUMENT, (p, v) -> p.book(0, v, 0, 100, 0, 0));
    c.part("promise 3, \"form not 0 to 2\"");
    c.range(Scenes::told, "form", 0, 2, ARGUMENT, (p, v) -> p.book(0, 0, v, 100, 0, 0));
    c.part("promise 3, \"pages not 50 to 900\"");
    c.range(Scenes::told, "pages", 50, 900, ARGUMENT, (p, v) -> p.book(0, 0, 0, v, 0, 0));
    c.part("promise 3, \"merit not 0 to 60\"");
    c.range(Scenes::told, "merit", 0, 60, ARGUMENT, (p, v) -> p.book(0, 0, 0, 100, v, 0));
    c.part("promise 3, \"or flavour not 0 to 9\"");
    c.range(Scenes::told, "flavour", 0, 9, ARGUMENT, (p, v) -> p.book(0, 0, 0, 100, 0, v));
  }

  /** What the least and the most of each value do in a year in which all of them are eligible. */
  private static void booksAtWork() {
    c.part("promise 3, the least and the most of each value");
    PrizeHouse p = Scenes.told();
    p.rules(7, 50, 900, 0);
    Scenes.enterAll(p, 0, 1, 2);
    Scenes.finishYear(p);
    p.book(0, 0, 0, 50, 0, 0);
    p.book(1, 9, 2, 900, 60, 9);
    p.book(2, 4, 1, 51, 1, 5);
    for (int b = 6; b < 9; b++) {
      c.is("eligible, book " + b, p.ofBook(b, 5), 1);
    }
    c.is("author", p.ofBook(6, 1), 0);
    c.is("author", p.ofBook(7, 1), 9);
    c.is("house", p.ofBook(6, 0), 0);
    c.is("house", p.ofBook(8, 0), 2);
    c.is("stock at first", p.ofBook(7, 2), 0);
    Scenes.enterAll(p, 6, 7, 8);
    p.read();
    c.is("pages", p.ofJudge(0, 3), 50 + 900 + 51);
    p.pass(6);
    c.is("merit 0, flavour 0, taste 5", p.mark(0, 6), 0);
    c.is("merit 60, flavour 9, taste 5", p.mark(0, 7), 60 + 10 - 8);
    c.is("merit 1, flavour 5, taste 5", p.mark(0, 8), 11);
  }

  private static void judges() {
    c.part("promise 4, \"speed is not 20 to 200\"");
    c.range(Scenes::told, "speed", 20, 200, ARGUMENT, (p, v) -> p.judge(v, 0, 0));
    c.part("promise 4, \"taste not 0 to 9\"");
    c.range(Scenes::told, "taste", 0, 9, ARGUMENT, (p, v) -> p.judge(100, v, 0));
    c.part("promise 4, \"or lean not -10 to 10\"");
    c.range(Scenes::told, "lean", -10, 10, ARGUMENT, (p, v) -> p.judge(100, 0, v));
    c.part("promise 4, \"if there are 5\"");
    c.takesIn(() -> Scenes.with(0, 4), "the 5th", p -> p.judge(100, 5, 0));
    c.refusesIn(() -> Scenes.with(0, 5), "the 6th", STATE, p -> p.judge(100, 5, 0));
    c.part("promise 4, \"or the PHASE is not 0\"");
    c.takesIn(() -> Scenes.inPhase(0), "in phase 0", p -> p.judge(100, 5, 0));
    for (int phase = 1; phase < 5; phase++) {
      int then = phase;
      c.refusesIn(() -> Scenes.inPhase(then), "in phase " + phase, STATE, p -> p.judge(100, 5, 0));
      c.refusesIn(() -> Scenes.inPhase(then), "taste 10 in phase " + phase, ARGUMENT,
          p -> p.judge(100, 10, 0));
    }
    c.takesIn(Scenes::nextYear, "in phase 0 of the next year", p -> p.judge(100, 5, 0));
    c.part("promise 4, the exception that is named first");
    c.refusesIn(Scenes::full, "speed, the 6th", ARGUMENT, p -> p.judge(201, 5, 0));
    c.refusesIn(Scenes::full, "lean, the 6th", ARGUMENT, p -> p.judge(100, 5, -11));
  }

  private static void judgesAtWork() {
    c.part("promise 4, the least and the most of each value");
    PrizeHouse p = Scenes.with(2, 0);
    c.is("judge", p.judge(20, 0, -10), 0);
    c.is("judge", p.judge(200, 9, 10), 1);
    c.is("judge", p.judge(200, 9, -10), 2);
    Scenes.tell(p, 0, 0, 100, 40);
    p.book(1, 1, 0, 100, 40, 9);
    p.book(1, 2, 0, 100, 40, 0);
    Scenes.enterAll(p, 0, 1, 2);
    p.read();
    p.pass(1);
    c.is("speed 20", p.ofJudge(0, 5), 20);
    c.is("speed 200", p.ofJudge(1, 5), 200);
    p.pass(14);
    int[][] due = {{30, 22, 40}, {52, 60, 42}, {32, 40, 22}};
    for (int j = 0; j < 3; j++) {
      for (int b = 0; b < 3; b++) {
        c.is("mark(" + j + ", " + b + ")", p.mark(j, b), due[j][b]);
      }
    }
  }

  private static void conflicts() {
    c.part("promise 5, \"if there is no such JUDGE\"");
    c.refusesIn(() -> Scenes.with(1, 0), "of none", INDEX, p -> p.conflict(0, 0));
    c.range(() -> Scenes.with(1, 1), "judge, of one", 0, 0, INDEX, (p, v) -> p.conflict(v, 0));
    c.range(Scenes::full, "judge, of five", 0, 4, INDEX, (p, v) -> p.conflict(v, 0));
    c.part("promise 5, \"if author is not 0 to 9\"");
    c.range(Scenes::told, "author", 0, 9, ARGUMENT, (p, v) -> p.conflict(0, v));
    c.part("promise 5, the exception that is named first");
    c.refusesIn(Scenes::told, "judge, author", INDEX, p -> p.conflict(3, 10));
    c.part("promise 5, \"with how many AUTHORS the JUDGE is in CONFLICT then\"");
    PrizeHouse p = Scenes.told();
    for (int author = 0; author < 10; author++) {
      c.is("conflict " + author, p.conflict(1, author), author + 1);
      c.is("the same again", p.conflict(1, author), author + 1);
    }
    c.is("of another judge", p.conflict(2, 9), 1);
    c.is("the set of all", p.ofJudge(1, 1), 1023);
    c.is("the set of none", p.ofJudge(0, 1), 0);
    c.part("terms 2, \"told at any time; for good\"");
    for (int phase = 0; phase < 5; phase++) {
      c.is("in phase " + phase, Scenes.inPhase(phase).conflict(0, 8), 1);
    }
    PrizeHouse later = Scenes.shortListed(3);
    later.conflict(0, 8);
    later.end();
    later.next();
    c.is("in the next year", later.ofJudge(0, 1), 256);
    Scenes.tell(later, 0, 8, 100, 1);
    c.is("it holds then", later.callIn(0, 6), -3);
  }

  private static void rulesByArguments() {
    c.part("promise 6, \"forms is not 1 to 7\"");
    c.range(Scenes::told, "forms", 1, 7, ARGUMENT, (p, v) -> p.rules(v, 100, 800, 10));
    c.part("promise 6, \"least not 50 to most\"");
    c.range(Scenes::told, "least", 50, 200, ARGUMENT, (p, v) -> p.rules(7, v, 200, 10));
    c.range(Scenes::told, "least, of one", 50, 50, ARGUMENT, (p, v) -> p.rules(7, v, 50, 10));
    c.refusesIn(Scenes::told, "most 49", ARGUMENT, p -> p.rules(7, 49, 49, 10));
    c.refusesIn(Scenes::told, "least 50, most 49", ARGUMENT, p -> p.rules(7, 50, 49, 10));
    c.refusesIn(Scenes::told, "most least of all", ARGUMENT,
        p -> p.rules(7, 50, Integer.MIN_VALUE, 10));
    c.part("promise 6, \"most above 900\"");
    c.takesIn(Scenes::told, "most 900", p -> p.rules(7, 100, 900, 10));
    c.takesIn(Scenes::told, "least 900, most 900", p -> p.rules(7, 900, 900, 10));
    c.refusesIn(Scenes::told, "most 901", ARGUMENT, p -> p.rules(7, 100, 901, 10));
    c.refusesIn(Scenes::told, "least 901, most 901", ARGUMENT, p -> p.rules(7, 901, 901, 10));
    c.refusesIn(Scenes::told, "most of all", ARGUMENT,
        p -> p.rules(7, 100, Integer.MAX_VALUE, 10));
    c.part("promise 6, \"or fee not 0 to 50\"");
    c.range(Scenes::told, "fee", 0, 50, ARGUMENT, (p, v) -> p.rules(7, 100, 800, v));
    c.part("promise 6, refused rules leave those that were told ahead of them");
    c.refusesIn(EdgeToldTest::rulesTold, "forms 0", ARGUMENT, p -> p.rules(0, 60, 70, 1));
    c.refusesIn(EdgeToldTest::rulesTold, "least 71", ARGUMENT, p -> p.rules(1, 71, 70, 1));
    c.refusesIn(EdgeToldTest::rulesTold, "fee 51", ARGUMENT, p -> p.rules(1, 60, 70, 51));
  }

  private static PrizeHouse rulesTold() {
    PrizeHouse p = Scenes.told();
    p.rules(6, 90, 800, 3);
    return p;
  }

  /** A prize at the end of its first year, with rules told for the next one. */
  private static PrizeHouse afterRules(int forms, int least, int most, int fee) {
    PrizeHouse p = Scenes.ended();
    p.rules(forms, least, most, fee);
    p.next();
    return p;
  }

  private static int eligible(PrizeHouse p, int form, int pages) {
    return p.ofBook(p.book(0, 0, form, pages, 0, 0), 5);
  }

  private static void rulesAtWork() {
    c.part("promise 6, the least and the most of each value");
    PrizeHouse one = afterRules(1, 50, 50, 0);
    c.is("form 0, 50 pages", eligible(one, 0, 50), 1);
    c.is("51 pages", eligible(one, 0, 51), 0);
    c.is("form 1", eligible(one, 1, 50), 0);
    c.is("form 2", eligible(one, 2, 50), 0);
    c.is("a fee of 0", one.many(14), 0);
    c.is("it is entered", one.enter(6), 1);
    c.is("for nothing", one.ofHouse(0, 0), 80);
    c.is("the fee of this year", one.rules(7, 100, 800, 20), 0);
    PrizeHouse all = afterRules(7, 900, 900, 50);
    for (int form = 0; form < 3; form++) {
      c.is("form " + form + ", 900 pages", eligible(all, form, 900), 1);
    }
    c.is("899 pages", eligible(all, 0, 899), 0);
    c.is("it is entered", all.enter(6), 1);
    c.is("a fee of 50", all.ofHouse(0, 0), 30);
    PrizeHouse last = afterRules(4, 51, 899, 10);
    c.is("form 2 alone", eligible(last, 2, 100), 1);
    c.is("not form 0", eligible(last, 0, 100), 0);
    c.is("not form 1", eligible(last, 1, 100), 0);
    c.is("50 pages", eligible(last, 2, 50), 0);
    c.is("51 pages", eligible(last, 2, 51), 1);
    c.is("899 pages", eligible(last, 2, 899), 1);
    c.is("900 pages", eligible(last, 2, 900), 0);
    PrizeHouse outer = afterRules(5, 60, 70, 10);
    c.is("forms 0 and 2, form 1", eligible(outer, 1, 65), 0);
    c.is("forms 0 and 2, form 2", eligible(outer, 2, 65), 1);
  }

  public static void main(String[] args) {
    newObject();
    houses();
    booksOfHouses();
    booksByArguments();
    booksAtWork();
    judges();
    judgesAtWork();
    conflicts();
    rulesByArguments();
    rulesAtWork();
    c.close();
  }
}
