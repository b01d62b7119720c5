/** Promises 7 to 11, sentence by sentence: the cases on both sides of each border that is named. */
public final class EdgeEntryTest {
  private static final Class<IndexOutOfBoundsException> INDEX = IndexOutOfBoundsException.class;
  private static final Class<IllegalArgumentException> ARGUMENT = IllegalArgumentException.class;
  private static final Class<IllegalStateException> STATE = IllegalStateException.class;
  private static final Check c = new Check("EdgeEntryTest");

  private static void enterRefused() {
    c.part("promise 7, \"if there is no such BOOK\"");
    c.refusesIn(() -> Scenes.with(1, 0), "of none", INDEX, p -> p.enter(0));
    c.range(Scenes::told, "book, of six", 0, 5, INDEX, PrizeHouse::enter);
    c.range(Scenes::full, "book, of sixteen", 0, 15, INDEX, PrizeHouse::enter);
    c.part("promise 7, \"if the PHASE is not 0\"");
    for (int phase = 1; phase < 5; phase++) {
      int then = phase;
      c.refusesIn(() -> lateWith(then, 100), "phase " + phase, STATE, p -> p.enter(6));
      c.part("promise 7, the exception that is named first");
      c.refusesIn(() -> lateWith(then, 100), "book, phase " + phase, INDEX, p -> p.enter(7));
      c.refusesIn(() -> lateWith(then, 99), "not eligible, phase " + phase, STATE,
          p -> p.enter(6));
    }
    c.part("promise 7, \"or it is ENTERED in this YEAR\"");
    c.refusesIn(Scenes::entered, "entered", STATE, p -> p.enter(5));
    c.refusesIn(EdgeEntryTest::calledIn, "called in", STATE, p -> p.enter(3));
    c.takesIn(EdgeEntryTest::calledIn, "another one of the same house", p -> p.enter(0));
  }

  /** Book 6 is told in that phase. */
  private static PrizeHouse lateWith(int phase, int pages) {
    PrizeHouse p = Scenes.inPhase(phase);
    Scenes.tell(p, 0, 7, pages, 1);
    return p;
  }

  private static PrizeHouse calledIn() {
    PrizeHouse p = Scenes.told();
    p.callIn(2, 3);
    return p;
  }

  /** Books 0 to 3 at the borders of pages, 4 to 6 of each form, of four houses. */
  private static PrizeHouse bordering() {
    PrizeHouse p = Scenes.with(4, 3);
    int[] pages = {99, 100, 800, 801, 100, 100, 100};
    int[] forms = {0, 0, 0, 0, 0, 1, 2};
    for (int b = 0; b < 7; b++) {
      p.book(b % 4, b, forms[b], pages[b], 5, 5);
    }
    return p;
  }

  private static void eligibleByRules() {
    c.part("terms 1, \"PAGES are no less and no more than these\"; \"all FORMS, 100 to 800\"");
    int[] due = {0, 1, 1, 0, 1, 1, 1};
    for (int b = 0; b < 7; b++) {
      int book = b;
      c.is("book " + b, bordering().ofBook(b, 5), due[b]);
      if (due[b] == 1) {
        c.is("enter " + b, bordering().enter(b), 1);
        c.is("call in " + b, bordering().callIn(0, b), 1);
      } else {
        c.part("promises 7 and 8, \"-2, if it is not ELIGIBLE\"");
        c.declinesIn(EdgeEntryTest::bordering, "enter " + b, -2, p -> p.enter(book));
        c.declinesIn(EdgeEntryTest::bordering, "call in " + b, -2, p -> p.callIn(0, book));
      }
    }
    c.part("terms 1, \"its FORM is in the set\"");
    for (int set = 1; set < 8; set++) {
      PrizeHouse p = Scenes.ended();
      p.rules(set, 100, 800, 10);
      p.next();
      for (int form = 0; form < 3; form++) {
        int book = p.book(0, 0, form, 100, 0, 0);
        c.is("form " + form + " of " + set, p.ofBook(book, 5), set >> form & 1);
      }
    }
  }

  /** In year 2: book 6 was told in year 0, books 7 to 10 in year 1, of which 8 to 10 were entered. */
  private static PrizeHouse threeYears() {
    PrizeHouse p = Scenes.told();
    Scenes.tell(p, 0, 6, 100, 1);
    Scenes.enterAll(p, 0, 1, 2);
    Scenes.finishYear(p);
    for (int b = 7; b < 11; b++) {
      Scenes.tell(p, b % 3, b - 7, 100, 1);
    }
    Scenes.enterAll(p, 8, 9, 10);
    Scenes.finishYear(p);
    return p;
  }

  private static void eligibleByYears() {
    c.part("terms 1, \"in the YEAR in which it was told, or the next one\"");
    PrizeHouse p = Scenes.told();
    c.is("in the year in which it was told", p.ofBook(3, 5), 1);
    Scenes.enterAll(p, 0, 1, 2);
    Scenes.finishYear(p);
    c.is("in the next one", p.ofBook(3, 5), 1);
    c.is("entered in the next one", p.enter(3), 1);
    c.is("called in, in the next one", p.callIn(0, 4), 2);
    PrizeHouse later = threeYears();
    c.is("two years later", later.ofBook(6, 5), 0);
    c.declinesIn(EdgeEntryTest::threeYears, "two years later", -2, q -> q.enter(6));
    c.declinesIn(EdgeEntryTest::threeYears, "two years later", -2, q -> q.callIn(1, 6));
    c.is("told one year ahead", later.enter(7), 1);
    c.part("terms 1, \"and it was not ENTERED in a YEAR ahead\"");
    c.is("entered in the year ahead", later.ofBook(8, 5), 0);
    c.declinesIn(EdgeEntryTest::threeYears, "in the year ahead", -2, q -> q.enter(8));
    c.declinesIn(EdgeEntryTest::threeYears, "in the year ahead", -2, q -> q.callIn(1, 8));
    c.is("entered in this year", Scenes.entered().ofBook(0, 5), 1);
    c.is("told in phase 4", toldAtTheEnd(0).ofBook(6, 5), 1);
    c.is("told in phase 4, in the next year", toldAtTheEnd(1).ofBook(6, 5), 1);
  }

  private static PrizeHouse toldAtTheEnd(int years) {
    PrizeHouse p = Scenes.ended();
    Scenes.tell(p, 0, 0, 100, 0);
    if (years > 0) {
      p.next();
    }
    return p;
  }

  /**
   * In entry of year 1, as none is entered: houses 0 to 2 had two, one and none on the longlist of
   * year 0, and house 1 one more that was entered and not listed. Books 4 to 8 are of house 0, 9 to
   * 12 of house 1, 13 to 15 of house 2.
   */
  private static PrizeHouse quotas() {
    PrizeHouse p = Scenes.with(3, 3);
    int[] houses = {0, 0, 1, 1};
    for (int b = 0; b < 4; b++) {
      Scenes.tell(p, houses[b], b, 100, 40 - b);
      p.enter(b);
    }
    Scenes.readAll(p);
    p.longList(3);
    p.shortList(2);
    p.end();
    p.next();
    for (int b = 4; b < 16; b++) {
      Scenes.tell(p, b < 9 ? 0 : b < 13 ? 1 : 2, b % 10, 100, 1);
    }
    return p;
  }

  /** As quotas, with so many entered of that house, the smallest numbers first. */
  private static PrizeHouse used(int first, int many) {
    PrizeHouse p = quotas();
    for (int k = 0; k < many; k++) {
      c.is("within quota", p.enter(first + k), k + 1);
    }
    return p;
  }

  private static void quota() {
    c.part("terms 1, \"2, and 1 for each ... on a longlist in the YEAR ahead; 4 at most\"");
    PrizeHouse p = quotas();
    int[] due = {4, 3, 2};
    int[] first = {4, 9, 13};
    for (int h = 0; h < 3; h++) {
      int house = h;
      c.is("quota of house " + h, p.ofHouse(h, 1), due[h]);
      c.is("used of house " + h, p.ofHouse(h, 2), 0);
      c.part("promise 7, \"-3, if QUOTA is used up (nothing is done)\"");
      c.is("all of it", used(first[h], due[h]).ofHouse(h, 2), due[h]);
      c.declinesIn(() -> used(first[house], due[house]), "one more of house " + h, -3,
          q -> q.enter(first[house] + due[house]));
      c.takesIn(() -> used(first[house], due[house]), "of another house",
          q -> q.enter(first[(house + 1) % 3]));
    }
    c.part("promise 7, \"-2, if it is not ELIGIBLE; otherwise -3\"");
    c.declinesIn(() -> used(4, 4), "neither", -2, q -> q.enter(0));
    c.part("terms 1, \"without QUOTA\"");
    PrizeHouse full = used(13, 2);
    c.is("called in behind a full quota", full.callIn(0, 15), 3);
    c.is("it uses none up", full.ofHouse(2, 2), 2);
    PrizeHouse year0 = Scenes.told();
    Scenes.tell(year0, 0, 7, 100, 1);
    c.is("quota in year 0", year0.ofHouse(0, 1), 2);
    c.is("the first", year0.enter(0), 1);
    c.is("the second", year0.enter(3), 2);
    c.is("the third", year0.enter(6), -3);
    c.part("terms 1, in the YEAR ahead, not in one ahead of that");
    PrizeHouse later = used(13, 2);
    later.enter(9);
    Scenes.finishYear(later);
    int[] then = {2, 3, 4};
    for (int h = 0; h < 3; h++) {
      c.is("quota of house " + h + " in year 2", later.ofHouse(h, 1), then[h]);
    }
  }

  private static void coins() {
    c.part("terms 1, \"COINS (100 at first; they can be below 0)\"");
    PrizeHouse p = Scenes.with(3, 3);
    for (int b = 0; b < 4; b++) {
      Scenes.tell(p, b == 2 ? 1 : 0, b, 100, 40 - b);
    }
    c.is("at first", p.ofHouse(0, 0), 100);
    Scenes.enterAll(p, 0, 1, 2);
    p.rules(7, 100, 800, 40);
    Scenes.finishYear(p);
    for (int b = 4; b < 8; b++) {
      Scenes.tell(p, 0, b, 100, 1);
    }
    int[] due = {40, 0, -40, -80};
    for (int k = 0; k < 4; k++) {
      c.is("enter", p.enter(3 + k), k + 1);
      c.is("coins, " + (k + 1) + " entered", p.ofHouse(0, 0), due[k]);
    }
    c.is("called in below 0", p.callIn(0, 7), 5);
    c.is("coins", p.ofHouse(0, 0), -100);
    c.part("terms 1, \"for half the FEE\", rounded down");
    int[] fees = {0, 1, 2, 3, 49, 50};
    int[] halves = {0, 0, 1, 1, 24, 25};
    for (int k = 0; k < fees.length; k++) {
      PrizeHouse q = Scenes.ended();
      q.rules(7, 100, 800, fees[k]);
      q.next();
      int called = Scenes.tell(q, 2, 0, 100, 1);
      int entered = Scenes.tell(q, 2, 0, 100, 1);
      q.callIn(0, called);
      c.is("half of " + fees[k], q.ofHouse(2, 0), 80 - halves[k]);
      q.enter(entered);
      c.is("the whole fee of " + fees[k], q.ofHouse(2, 0), 80 - halves[k] - fees[k]);
    }
  }

  private static void callInRefused() {
    c.part("promise 8, \"if there is no such JUDGE, or BOOK\"");
    c.refusesIn(() -> Scenes.with(1, 1), "no book", INDEX, p -> p.callIn(0, 0));
    c.range(Scenes::told, "judge, of three", 0, 2, INDEX, (p, v) -> p.callIn(v, 0));
    c.range(Scenes::told, "book, of six", 0, 5, INDEX, (p, v) -> p.callIn(0, v));
    c.range(Scenes::full, "judge, of five", 0, 4, INDEX, (p, v) -> p.callIn(v, 0));
    c.range(Scenes::full, "book, of sixteen", 0, 15, INDEX, (p, v) -> p.callIn(0, v));
    c.part("promise 8, \"if the PHASE is not 0\"");
    for (int phase = 1; phase < 5; phase++) {
      int then = phase;
      c.refusesIn(() -> lateWith(then, 100), "phase " + phase, STATE, p -> p.callIn(0, 6));
      c.refusesIn(() -> lateWith(then, 99), "not eligible, phase " + phase, STATE,
          p -> p.callIn(0, 6));
      c.refusesIn(() -> lateWith(then, 100), "book, phase " + phase, INDEX, p -> p.callIn(0, 7));
      c.refusesIn(() -> lateWith(then, 100), "judge, phase " + phase, INDEX, p -> p.callIn(3, 6));
    }
    c.part("promise 8, \"or it is ENTERED in this YEAR\"");
    c.refusesIn(Scenes::entered, "entered", STATE, p -> p.callIn(0, 5));
    c.refusesIn(EdgeEntryTest::calledIn, "called in", STATE, p -> p.callIn(0, 3));
    c.refusesIn(EdgeEntryTest::calledIn, "called in, by the same judge", STATE,
        p -> p.callIn(2, 3));
    c.refusesIn(Scenes::entered, "judge, entered", INDEX, p -> p.callIn(-1, 5));
    c.refusesIn(EdgeEntryTest::atOdds, "entered and in conflict", STATE, p -> p.callIn(0, 1));
  }

  /** Judge 0 is in conflict with the authors of books 0 and 1, the second of which is entered. */
  private static PrizeHouse atOdds() {
    PrizeHouse p = Scenes.told();
    Scenes.tell(p, 0, 0, 99, 1);
    p.conflict(0, 0);
    p.conflict(0, 1);
    p.enter(1);
    return p;
  }

  private static void callIn() {
    c.part("promise 8, \"-3, if the JUDGE has CALLED one IN\"");
    c.declinesIn(EdgeEntryTest::calledIn, "the second of judge 2", -3, p -> p.callIn(2, 0));
    c.takesIn(EdgeEntryTest::calledIn, "the first of judge 1", p -> p.callIn(1, 0));
    c.part("promise 8, \"or is in CONFLICT (nothing is done)\"");
    c.declinesIn(EdgeEntryTest::atOdds, "in conflict", -3, p -> p.callIn(0, 0));
    c.takesIn(EdgeEntryTest::atOdds, "a judge who is not", p -> p.callIn(1, 0));
    c.takesIn(EdgeEntryTest::atOdds, "an author who is not", p -> p.callIn(0, 2));
    c.part("promise 8, \"-2, if it is not ELIGIBLE; otherwise -3\"");
    c.declinesIn(EdgeEntryTest::atOdds, "not eligible and in conflict", -2, p -> p.callIn(0, 6));
    PrizeHouse p = atOdds();
    c.is("one of conflict", p.callIn(0, 0), -3);
    c.is("one that is not eligible", p.callIn(0, 6), -2);
    c.is("neither is a call in", p.callIn(0, 3), 2);
    c.is("not eligible, called in", p.callIn(0, 6), -2);
    c.part("terms 1, \"a JUDGE, at most 1 in a YEAR\"");
    PrizeHouse next = Scenes.fullEntered();
    c.is("all five and ten more", next.many(6), 15);
    c.is("none for the 16th", next.callIn(0, 15), -3);
    Scenes.finishYear(next);
    c.is("in the next year", next.callIn(0, 15), 1);
    c.part("terms 1, \"It is ENTERED by that, too\"");
    c.is("entered", calledIn().ofBook(3, 6), 1);
    c.is("how many", calledIn().many(6), 1);
    c.is("not the others", calledIn().ofBook(2, 6), 0);
  }

  private static void entered() {
    c.part("promise 7, \"how many are ENTERED then\", from 1 to as many as there can be");
    PrizeHouse p = Scenes.full();
    for (int b = 0; b < 10; b++) {
      c.is("enter", p.enter(b), b + 1);
    }
    for (int j = 0; j < 5; j++) {
      c.is("call in", p.callIn(j, 10 + j), 11 + j);
    }
    c.is("no quota for the 16th", p.enter(15), -3);
    Scenes.finishYear(p);
    c.is("none in the next year", p.many(6), 0);
    c.is("the first in the next year", p.enter(15), 1);
  }

  public static void main(String[] args) {
    enterRefused();
    eligibleByRules();
    eligibleByYears();
    quota();
    coins();
    callInRefused();
    callIn();
    entered();
    c.close();
  }
}
