/** Promises 7 to 18: what is done. */
public final class ActTest {
  private static final Class<IndexOutOfBoundsException> INDEX = IndexOutOfBoundsException.class;
  private static final Class<IllegalArgumentException> ARGUMENT = IllegalArgumentException.class;
  private static final Class<IllegalStateException> STATE = IllegalStateException.class;
  private static final Check c = new Check("ActTest");

  private static void enter() {
    c.part("promise 7");
    PrizeHouse p = new PrizeHouse();
    p.house();
    p.house();
    c.refuses(p, "enter without books", INDEX, () -> p.enter(0));
    int[] pages = {100, 800, 99, 801, 300, 300};
    for (int b = 0; b < pages.length; b++) {
      p.book(b / 5, b, b % 3, pages[b], 10, 5);
    }
    c.refuses(p, "book -1", INDEX, () -> p.enter(-1));
    c.refuses(p, "book 6", INDEX, () -> p.enter(6));
    c.is("too few pages", p.enter(2), -2);
    c.is("too many pages", p.enter(3), -2);
    c.is("enter", p.enter(0), 1);
    c.refuses(p, "enter again", STATE, () -> p.enter(0));
    c.is("coins", p.ofHouse(0, 0), 90);
    c.is("used", p.ofHouse(0, 2), 1);
    c.is("entered", p.ofBook(0, 6), 1);
    c.is("still eligible", p.ofBook(0, 5), 1);
    c.is("enter the second", p.enter(1), 2);
    c.is("enter the third", p.enter(4), -3);
    c.is("not eligible comes first", p.enter(2), -2);
    c.is("coins", p.ofHouse(0, 0), 80);
    c.is("used", p.ofHouse(0, 2), 2);
    c.is("not entered", p.ofBook(4, 6), 0);
    c.is("of the other house", p.enter(5), 3);
    c.is("coins of the other", p.ofHouse(1, 0), 90);
    c.is("entered", p.many(6), 3);
    for (int phase = 1; phase < 5; phase++) {
      PrizeHouse late = Scenes.inPhase(phase);
      late.book(0, 0, 0, 100, 0, 0);
      c.refuses(late, "enter in phase " + phase, STATE, () -> late.enter(6));
      c.refuses(late, "enter 7 in phase " + phase, INDEX, () -> late.enter(7));
    }
  }

  private static void enterInYears() {
    c.part("promise 7, by years");
    PrizeHouse p = new PrizeHouse();
    for (int h = 0; h < 2; h++) {
      p.house();
    }
    for (int j = 0; j < 3; j++) {
      p.judge(200, 5, 0);
    }
    for (int b = 0; b < 5; b++) {
      p.book(b == 2 ? 1 : 0, b, 0, 100, 30, 5);
    }
    p.enter(0);
    p.enter(1);
    p.enter(2);
    p.rules(7, 100, 800, 50);
    Scenes.finishYear(p);
    c.is("quota by two on the longlist", p.ofHouse(0, 1), 4);
    c.is("quota by one on the longlist", p.ofHouse(1, 1), 3);
    c.is("used", p.ofHouse(0, 2), 0);
    c.is("one that was entered in the year ahead", p.enter(0), -2);
    c.is("told in the year ahead", p.enter(3), 1);
    for (int b = 5; b < 9; b++) {
      p.book(0, b, 0, 100, 30, 5);
    }
    c.is("enter", p.enter(5), 2);
    c.is("enter", p.enter(6), 3);
    c.is("coins can be below 0", p.ofHouse(0, 0), -70);
    c.is("enter", p.enter(7), 4);
    c.is("quota of 4", p.enter(8), -3);
    p.rules(7, 100, 800, 0);
    Scenes.finishYear(p);
    c.is("told two years ahead", p.enter(4), -2);
    c.is("told in the year ahead", p.enter(8), 1);
    c.is("a fee of 0", p.ofHouse(0, 0), -120);
    c.is("quota of a house without any in the year ahead", p.ofHouse(1, 1), 2);
  }

  private static void callIn() {
    c.part("promise 8");
    PrizeHouse p = Scenes.told();
    p.book(0, 7, 0, 99, 0, 0);
    p.conflict(0, 0);
    c.refuses(p, "judge -1", INDEX, () -> p.callIn(-1, 0));
    c.refuses(p, "judge 3", INDEX, () -> p.callIn(3, 0));
    c.refuses(p, "book -1", INDEX, () -> p.callIn(0, -1));
    c.refuses(p, "book 7", INDEX, () -> p.callIn(0, 7));
    c.is("not eligible", p.callIn(0, 6), -2);
    c.is("in conflict", p.callIn(0, 0), -3);
    c.is("call in", p.callIn(1, 0), 1);
    c.is("half the fee", p.ofHouse(0, 0), 95);
    c.is("quota is not used", p.ofHouse(0, 2), 0);
    c.is("entered by that", p.ofBook(0, 6), 1);
    c.refuses(p, "call in again", STATE, () -> p.callIn(2, 0));
    c.refuses(p, "enter then", STATE, () -> p.enter(0));
    c.is("a second one by the judge", p.callIn(1, 1), -3);
    c.is("not eligible comes first", p.callIn(1, 6), -2);
    c.is("one refused is not used up", p.callIn(0, 1), 2);
    p.enter(2);
    c.is("entered ahead of that", p.callIn(2, 3), 4);
    for (int phase = 1; phase < 5; phase++) {
      PrizeHouse late = Scenes.inPhase(phase);
      late.book(0, 0, 0, 99, 0, 0);
      c.refuses(late, "call in, phase " + phase, STATE, () -> late.callIn(0, 6));
      c.refuses(late, "call in 7, phase " + phase, INDEX, () -> late.callIn(0, 7));
    }
    PrizeHouse odd = Scenes.told();
    odd.callIn(0, 0);
    odd.callIn(1, 1);
    odd.callIn(2, 2);
    odd.rules(7, 100, 800, 7);
    Scenes.finishYear(odd);
    c.is("called in the year ahead", odd.callIn(1, 0), -2);
    c.is("a judge in the next year", odd.callIn(1, 3), 1);
    c.is("half of 7", odd.ofHouse(0, 0), 100 - 5 - 3);
    c.is("quota without use", odd.ofHouse(0, 2), 0);
  }

  /** Four judges; books 0 to 4 of 100, 200, 150, 120 and 100 pages by the authors of that number. */
  private static PrizeHouse crates() {
    PrizeHouse p = new PrizeHouse();
    for (int h = 0; h < 3; h++) {
      p.house();
    }
    for (int j = 0; j < 4; j++) {
      p.judge(100, 5, 0);
    }
    int[] pages = {100, 200, 150, 120, 100};
    for (int b = 0; b < 5; b++) {
      p.book(b % 3, b, 0, pages[b], 30, 5);
    }
    return p;
  }

  private static void read() {
    c.part("promise 9");
    PrizeHouse p = crates();
    p.conflict(3, 2);
    p.conflict(0, 3);
    p.conflict(1, 3);
    for (int j = 0; j < 4; j++) {
      p.conflict(j, 4);
    }
    p.enter(4);
    p.enter(2);
    c.refuses(p, "two are entered", STATE, p::read);
    p.enter(3);
    p.enter(1);
    p.enter(0);
    c.is("read", p.read(), 11);
    c.is("phase", p.many(1), 1);
    int[] counts = {3, 3, 3, 2};
    int[] sums = {450, 450, 370, 320};
    for (int j = 0; j < 4; j++) {
      c.is("books of judge " + j, p.ofJudge(j, 2), counts[j]);
      c.is("pages of judge " + j, p.ofJudge(j, 3), sums[j]);
    }
    p.pass(2);
    c.is("judge 0 has read book 0", p.mark(0, 0), 40);
    c.is("judge 3 has read book 1 first", p.mark(3, 1), 40);
    c.is("judge 2 has read book 0", p.mark(2, 0), 40);
    c.is("judge 2 not yet book 2", p.mark(2, 2), -1);
    p.pass(3);
    int[][] marked = {{1, 1, 1, 0, 0}, {1, 1, 1, 0, 0}, {1, 0, 1, 1, 0}, {0, 1, 0, 1, 0}};
    for (int j = 0; j < 4; j++) {
      for (int b = 0; b < 5; b++) {
        c.is("mark(" + j + ", " + b + ")", p.mark(j, b), marked[j][b] == 1 ? 40 : -1);
      }
    }
    for (int phase = 1; phase < 5; phase++) {
      PrizeHouse late = Scenes.inPhase(phase);
      c.refuses(late, "read in phase " + phase, STATE, late::read);
    }
    PrizeHouse two = new PrizeHouse();
    two.house();
    two.house();
    two.judge(100, 5, 0);
    two.judge(100, 5, 0);
    for (int b = 0; b < 3; b++) {
      two.book(b / 2, b, 0, 100, 1, 1);
      two.enter(b);
    }
    c.refuses(two, "two judges", STATE, two::read);
    two.judge(100, 5, 0);
    c.is("three judges and three books", two.read(), 9);
  }

  private static void print() {
    c.part("promise 10");
    PrizeHouse p = Scenes.told();
    c.refuses(p, "book -1", INDEX, () -> p.print(-1, 1));
    c.refuses(p, "book 6", INDEX, () -> p.print(6, 0));
    c.refuses(p, "copies 0", ARGUMENT, () -> p.print(0, 0));
    c.refuses(p, "copies 5001", ARGUMENT, () -> p.print(0, 5001));
    c.is("print", p.print(0, 1), 1);
    c.is("print", p.print(0, 5000), 5001);
    c.is("print", p.print(0, 4998), 9999);
    c.is("print beyond", p.print(0, 1), 9999);
    c.is("print beyond", p.print(0, 5000), 9999);
    c.is("stock", p.ofBook(0, 2), 9999);
    c.is("of another", p.print(1, 7), 7);
    c.is("it costs nothing", p.ofHouse(0, 0), 100);
    for (int phase = 0; phase < 5; phase++) {
      c.is("print in phase " + phase, Scenes.inPhase(phase).print(2, 3), 3);
    }
  }

  private static void passDays() {
    c.part("promise 11, days");
    PrizeHouse p = new PrizeHouse();
    c.refuses(p, "days 0", ARGUMENT, () -> p.pass(0));
    c.refuses(p, "days 61", ARGUMENT, () -> p.pass(61));
    c.refuses(p, "days -1", ARGUMENT, () -> p.pass(-1));
    c.is("pass(1)", p.pass(1), 0);
    c.is("day", p.many(2), 1);
    for (int k = 0; k < 166; k++) {
      p.pass(60);
    }
    c.is("day", p.many(2), 9961);
    c.refuses(p, "one day beyond", STATE, () -> p.pass(39));
    c.is("the last days", p.pass(38), 0);
    c.is("day", p.many(2), 9999);
    c.refuses(p, "beyond", STATE, () -> p.pass(1));
    c.refuses(p, "beyond, days 61", ARGUMENT, () -> p.pass(61));
  }

  private static PrizeHouse readers(int speed, int first, int second, int third) {
    PrizeHouse p = new PrizeHouse();
    p.house();
    p.house();
    p.judge(speed, 2, -10);
    p.judge(200, 0, 10);
    p.judge(200, 9, 0);
    p.book(0, 0, 0, first, 30, 5);
    p.book(0, 1, 0, second, 0, 9);
    p.book(1, 2, 0, third, 60, 0);
    for (int b = 0; b < 3; b++) {
      p.enter(b);
    }
    p.read();
    return p;
  }

  private static void passPages() {
    c.part("promise 11, pages");
    PrizeHouse p = readers(200, 300, 250, 700);
    c.is("day 1", p.pass(1), 0);
    c.is("pages", p.ofJudge(0, 5), 200);
    c.is("day 2", p.pass(1), 3);
    c.is("pages go on with the next book", p.ofJudge(0, 5), 400);
    c.is("marked", p.mark(0, 0), 30 - 10 + 10 - 6);
    c.is("marked", p.mark(1, 0), 30 + 10 + 10 - 10);
    c.is("not marked", p.mark(0, 1), -1);
    c.is("day 3", p.pass(1), 3);
    c.is("0 at least", p.mark(0, 1), 0);
    c.is("of the other taste", p.mark(2, 1), 10);
    c.is("less 5 behind 500", p.pass(1), 0);
    c.is("pages", p.ofJudge(0, 5), 795);
    p.pass(1);
    c.is("pages", p.ofJudge(0, 5), 990);
    p.pass(1);
    c.is("still one 500 as the day began", p.ofJudge(0, 5), 1185);
    c.is("day 7", p.pass(1), 3);
    c.is("what is left", p.ofJudge(0, 5), 1250);
    c.is("the highest mark there is", p.mark(1, 2), 80);
    c.is("nothing is left", p.pass(5), 0);
    c.is("pages", p.ofJudge(0, 5), 1250);
    PrizeHouse slow = readers(20, 500, 500, 800);
    c.is("to the very end of a book", slow.pass(25), 1 + 2 * 3);
    c.is("pages", slow.ofJudge(0, 5), 500);
    slow.pass(1);
    c.is("less 5 as 500 are read", slow.ofJudge(0, 5), 515);
    slow.pass(33);
    c.is("pages", slow.ofJudge(0, 5), 1010);
    slow.pass(1);
    c.is("10 at least, behind 1000", slow.ofJudge(0, 5), 1020);
    slow.pass(60);
    c.is("10 at least, behind 1500", slow.ofJudge(0, 5), 1620);
    c.is("days that are left", slow.readIn(), 18);
    PrizeHouse close = readers(58, 500, 500, 800);
    close.pass(18);
    c.is("9 days of 58 and 9 of 53", close.ofJudge(0, 5), 999);
    close.pass(1);
    c.is("999 is one whole 500", close.ofJudge(0, 5), 1052);
  }

  private static void passSales() {
    c.part("promise 11, sales");
    PrizeHouse p = Scenes.longListed(4);
    p.print(0, 30);
    p.print(1, 3);
    p.print(4, 9);
    c.is("missed until then", p.many(13), 18);
    p.pass(2);
    c.is("5 a day on the longlist", p.ofBook(0, 3), 10);
    c.is("stock", p.ofBook(0, 2), 20);
    c.is("all of the stock", p.ofBook(1, 3), 3);
    c.is("what lacks is missed", p.ofBook(1, 4), 3 + 7);
    c.is("1 a day without a list", p.ofBook(4, 3), 2);
    c.is("nothing in stock", p.ofBook(5, 4), 3 + 2);
    c.is("coins of house 0", p.ofHouse(0, 0), 80 + 10);
    c.is("coins of house 1", p.ofHouse(1, 0), 80 + 3 + 2);
    p.shortList(2);
    p.print(0, 4000);
    p.print(2, 1000);
    p.pass(1);
    c.is("20 on the shortlist", p.ofBook(0, 3), 30);
    c.is("5 on the longlist alone", p.ofBook(2, 3), 5);
    p.end();
    p.pass(2);
    c.is("90 for the winner", p.ofBook(0, 3), 210);
    p.print(1, 5000);
    p.strip();
    p.pass(1);
    c.is("20 for one that was stripped", p.ofBook(0, 3), 230);
    c.is("90 for the winner then", p.ofBook(1, 3), 93);
    p.next();
    p.pass(1);
    c.is("1 in the next year", p.ofBook(0, 3), 231);
    c.is("90 in the next year", p.ofBook(1, 3), 183);
    for (int b = 6; b < 9; b++) {
      p.book(b % 3, b, 0, 100, 10, 5);
      p.enter(b);
    }
    p.read();
    p.pass(2);
    c.is("90 as the next year goes on", p.ofBook(1, 3), 363);
    p.longList(8);
    p.shortList(5);
    p.end();
    p.pass(1);
    c.is("90 beside the next winner", p.ofBook(1, 3), 453);
    p.next();
    p.pass(1);
    c.is("1 in the year behind that", p.ofBook(1, 3), 454);
  }

  private static void longList() {
    c.part("promise 12");
    int[] many = {3, 4, 5, 6, 7, 8};
    int[] sets = {7, 15, 31, 63, 63, 63};
    for (int k = 0; k < many.length; k++) {
      PrizeHouse p = Scenes.read();
      c.is("longList(" + many[k] + ")", p.longList(many[k]), Integer.bitCount(sets[k]));
      c.is("the set", p.many(7), sets[k]);
      c.is("phase", p.many(1), 2);
    }
    PrizeHouse p = Scenes.reading();
    c.refuses(p, "many 2", ARGUMENT, () -> p.longList(2));
    c.refuses(p, "many 9", ARGUMENT, () -> p.longList(9));
    c.refuses(p, "a crate is not read", STATE, () -> p.longList(3));
    p.pass(2);
    c.refuses(p, "crates are still not read", STATE, () -> p.longList(3));
    p.pass(1);
    c.is("as all are read", p.longList(3), 3);
    PrizeHouse first = readers(20, 100, 101, 100);
    first.pass(15);
    c.is("one page is left in the crate of judge 0", first.ofJudge(0, 3), 1);
    c.is("none is left in the others", first.ofJudge(1, 3) + first.ofJudge(2, 3), 0);
    c.refuses(first, "one page is not read", STATE, () -> first.longList(3));
    first.pass(1);
    c.is("as it is read", first.longList(3), 3);
    for (int phase = 0; phase < 5; phase++) {
      PrizeHouse other = Scenes.inPhase(phase);
      c.refuses(other, "many 2 in phase " + phase, ARGUMENT, () -> other.longList(2));
      if (phase != 1) {
        c.refuses(other, "phase " + phase, STATE, () -> other.longList(3));
      }
    }
  }

  private static void longListOfHouses() {
    c.part("promise 12, by houses and numbers");
    int[] sets = {11, 27};
    int[] many = {3, 8};
    for (int k = 0; k < 2; k++) {
      PrizeHouse p = new PrizeHouse();
      p.house();
      p.house();
      for (int j = 0; j < 3; j++) {
        p.judge(200, 5, 0);
      }
      for (int b = 0; b < 5; b++) {
        p.book(b / 3, b, 0, 100, 60 - 10 * b, 5);
      }
      p.callIn(0, 2);
      for (int b : new int[] {0, 1, 3, 4}) {
        p.enter(b);
      }
      p.read();
      p.pass(3);
      p.longList(many[k]);
      c.is("not three of a house, many " + many[k], p.many(7), sets[k]);
    }
    PrizeHouse same = new PrizeHouse();
    same.house();
    same.house();
    for (int j = 0; j < 3; j++) {
      same.judge(200, 5, 0);
    }
    int[] merits = {20, 30, 20, 30};
    for (int b = 0; b < 4; b++) {
      same.book(b % 2, b, 0, 100, merits[b], 5);
      same.enter(b);
    }
    same.read();
    same.pass(3);
    same.longList(3);
    c.is("the greatest first, then the smaller number", same.many(7), 2 + 8 + 1);
  }

  /** Four judges; book 0 is read by judges 0, 1 and 2. */
  private static PrizeHouse fourRead() {
    PrizeHouse p = Scenes.told();
    p.judge(200, 5, 0);
    for (int b = 0; b < 6; b++) {
      p.enter(b);
    }
    p.read();
    p.pass(3);
    return p;
  }

  private static void longListByMarks() {
    c.part("promise 12, by marks");
    int[][] judges = {{}, {0}, {3}, {0, 1}, {1, 2}, {0, 3}, {0, 1, 3}, {1, 2, 3}, {0, 1, 2},
        {0, 1, 2, 3}};
    boolean[] isOn = {true, true, true, false, false, true, true, true, false, false};
    for (int k = 0; k < judges.length; k++) {
      PrizeHouse p = fourRead();
      for (int j : judges[k]) {
        p.conflict(j, 0);
      }
      p.longList(8);
      c.is("conflicts of case " + k, p.ofBook(0, 7), isOn[k] ? 1 : 0);
      c.is("the others", p.many(7) | 1, 63);
    }
    PrizeHouse none = Scenes.read();
    for (int j = 0; j < 3; j++) {
      for (int author = 0; author < 6; author++) {
        none.conflict(j, author);
      }
    }
    c.is("a longlist without books", none.longList(3), 0);
    c.is("phase", none.many(1), 2);
    PrizeHouse two = Scenes.told();
    two.enter(3);
    two.enter(4);
    two.enter(5);
    two.read();
    two.pass(2);
    two.longList(8);
    c.is("of entered ones", two.many(7), 8 + 16 + 32);
  }

  private static void points() {
    c.part("promise 13");
    PrizeHouse p = Scenes.longListed(5);
    c.refuses(p, "judge -1", INDEX, () -> p.points(-1, 0, 1));
    c.refuses(p, "judge 3", INDEX, () -> p.points(3, 0, 13));
    c.refuses(p, "book -1", INDEX, () -> p.points(0, -1, 1));
    c.refuses(p, "book 6", INDEX, () -> p.points(0, 6, 1));
    c.refuses(p, "not on the longlist", INDEX, () -> p.points(0, 5, 1));
    c.refuses(p, "points -1", ARGUMENT, () -> p.points(0, 0, -1));
    c.refuses(p, "points 13", ARGUMENT, () -> p.points(0, 0, 13));
    c.is("points", p.points(0, 0, 5), 7);
    c.is("points", p.points(0, 1, 7), 0);
    c.refuses(p, "13 in all", STATE, () -> p.points(0, 0, 6));
    c.refuses(p, "13 in all", STATE, () -> p.points(0, 2, 1));
    c.is("0 for one more", p.points(0, 2, 0), 0);
    c.is("fewer from now on", p.points(0, 0, 4), 1);
    c.is("none from now on", p.points(0, 0, 0), 5);
    c.is("all from now on", p.points(0, 0, 5), 0);
    c.is("12 for one", p.points(1, 0, 12), 0);
    c.is("sum", p.ofBook(0, 10), 17);
    p.conflict(1, 0);
    c.is("what does not count", p.ofBook(0, 10), 5);
    c.is("is used up", p.ofJudge(1, 7), 0);
    c.refuses(p, "in conflict, points 0", STATE, () -> p.points(1, 0, 0));
    c.refuses(p, "in conflict, points 13", ARGUMENT, () -> p.points(1, 0, 13));
    c.refuses(p, "more than 12, one that does not count", STATE, () -> p.points(1, 1, 1));
    for (int phase = 0; phase < 5; phase++) {
      if (phase != 2) {
        PrizeHouse other = Scenes.inPhase(phase);
        c.refuses(other, "points in phase " + phase, INDEX, () -> other.points(0, 0, 1));
        c.refuses(other, "points 13 in phase " + phase, INDEX, () -> other.points(0, 0, 13));
      }
    }
  }

  private static void shortList() {
    c.part("promise 14");
    PrizeHouse byScores = Scenes.longListed(8);
    c.refuses(byScores, "many 1", ARGUMENT, () -> byScores.shortList(1));
    c.refuses(byScores, "many 6", ARGUMENT, () -> byScores.shortList(6));
    c.is("shortList(2)", byScores.shortList(2), 2);
    c.is("by scores", byScores.many(8), 3);
    c.is("phase", byScores.many(1), 3);
    PrizeHouse byPoints = Scenes.longListed(8);
    byPoints.points(0, 5, 1);
    byPoints.points(0, 4, 2);
    c.is("shortList(5)", byPoints.shortList(5), 5);
    c.is("by points", byPoints.many(8), 63 - 8);
    PrizeHouse byGivers = Scenes.longListed(8);
    byGivers.points(0, 4, 6);
    byGivers.points(1, 5, 3);
    byGivers.points(2, 5, 3);
    byGivers.points(1, 3, 6);
    byGivers.shortList(2);
    c.is("by givers, then by scores", byGivers.many(8), 32 + 8);
    PrizeHouse bySmall = Scenes.longListed(8);
    bySmall.points(2, 4, 2);
    bySmall.points(0, 5, 1);
    bySmall.points(1, 5, 1);
    bySmall.points(1, 3, 2);
    bySmall.shortList(2);
    c.is("one point makes a giver, judge 0 too", bySmall.many(8), 32 + 8);
    PrizeHouse byOthers = Scenes.longListed(8);
    byOthers.points(0, 4, 6);
    byOthers.points(1, 4, 3);
    byOthers.points(2, 3, 6);
    byOthers.points(1, 5, 7);
    byOthers.conflict(1, 4);
    byOthers.shortList(2);
    c.is("neither points nor givers in conflict", byOthers.many(8), 32 + 8);
    PrizeHouse fewer = Scenes.longListed(3);
    c.is("all of the longlist", fewer.shortList(5), 3);
    for (int phase = 0; phase < 5; phase++) {
      PrizeHouse other = Scenes.inPhase(phase);
      c.refuses(other, "many 6 in phase " + phase, ARGUMENT, () -> other.shortList(6));
      if (phase != 2) {
        c.refuses(other, "phase " + phase, STATE, () -> other.shortList(2));
      }
    }
  }

  /** A shortlist of books 0 to 2, all of the same score. */
  private static PrizeHouse equals(int judges) {
    PrizeHouse p = new PrizeHouse();
    for (int h = 0; h < 3; h++) {
      p.house();
    }
    for (int j = 0; j < judges; j++) {
      p.judge(200, 5, 0);
    }
    for (int b = 0; b < 3; b++) {
      p.book(b, b, 0, 100, 30, 5);
      p.enter(b);
    }
    p.read();
    p.pass(2);
    p.longList(3);
    p.shortList(3);
    return p;
  }

  private static void shortListTies() {
    c.part("promise 14, of the same");
    PrizeHouse p = new PrizeHouse();
    p.house();
    p.house();
    for (int j = 0; j < 3; j++) {
      p.judge(200, 5, 0);
    }
    for (int b = 0; b < 4; b++) {
      p.book(b % 2, b, 0, 100, 30, 5);
      p.enter(b);
    }
    p.read();
    p.pass(2);
    p.longList(8);
    p.points(0, 3, 2);
    p.points(1, 2, 2);
    p.points(2, 1, 2);
    p.shortList(2);
    c.is("the smaller number", p.many(8), 2 + 4);
    PrizeHouse none = Scenes.read();
    for (int j = 0; j < 3; j++) {
      for (int author = 0; author < 6; author++) {
        none.conflict(j, author);
      }
    }
    none.longList(3);
    c.is("a shortlist without books", none.shortList(2), 0);
    c.refuses(none, "no order then", ARGUMENT, () -> none.vote(0, 0));
    c.is("nobody wins", none.end(), -1);
    c.refuses(none, "nobody is stripped", STATE, none::strip);
    c.is("next", none.next(), 1);
    c.is("no winner of the year ahead", none.many(10), -1);
  }

  private static void vote() {
    c.part("promise 15");
    PrizeHouse p = Scenes.shortListed(3);
    c.refuses(p, "judge -1", INDEX, () -> p.vote(-1, 123));
    c.refuses(p, "judge 3", INDEX, () -> p.vote(3, 0));
    for (int order : new int[] {0, 1, 12, 1234, 1123, 112, 122, 121, 111, 124, 120, 102, 12300, 103,
        423, -123, 3210, 1321, Integer.MAX_VALUE, Integer.MIN_VALUE, 2147483123}) {
      c.refuses(p, "order " + order, ARGUMENT, () -> p.vote(0, order));
    }
    c.is("vote", p.vote(0, 123), 1);
    c.is("vote again", p.vote(0, 321), 1);
    c.is("vote of another", p.vote(2, 213), 2);
    c.is("there is an order", p.ofJudge(0, 6), 1);
    c.is("there is none", p.ofJudge(1, 6), 0);
    c.is("in conflict", p.conflict(1, 0), 1);
    c.is("vote in conflict", p.vote(1, 231), 3);
    PrizeHouse five = Scenes.shortListed(5);
    c.is("five digits", five.vote(0, 54321), 1);
    c.refuses(five, "four digits", ARGUMENT, () -> five.vote(0, 4321));
    c.refuses(five, "place 6", ARGUMENT, () -> five.vote(0, 64321));
    PrizeHouse two = Scenes.shortListed(2);
    c.is("two digits", two.vote(1, 21), 1);
    for (int phase = 0; phase < 3; phase++) {
      PrizeHouse early = Scenes.inPhase(phase);
      c.refuses(early, "without a shortlist", ARGUMENT, () -> early.vote(0, 123));
    }
    PrizeHouse late = Scenes.ended();
    c.refuses(late, "in phase 4", STATE, () -> late.vote(0, 123));
    c.refuses(late, "no order in phase 4", ARGUMENT, () -> late.vote(0, 12));
    late.next();
    c.refuses(late, "in the next year", ARGUMENT, () -> late.vote(0, 123));
  }

  private static void end() {
    c.part("promise 16");
    PrizeHouse p = Scenes.shortListed(3);
    p.vote(0, 321);
    p.vote(1, 321);
    p.vote(2, 123);
    c.is("more than half", p.end(), 2);
    c.is("phase", p.many(1), 4);
    c.is("the winner", p.many(9), 2);
    c.is("its standing", p.ofBook(2, 7), 3);
    PrizeHouse without = Scenes.shortListed(3);
    c.is("without orders", without.end(), 0);
    PrizeHouse byScores = new PrizeHouse();
    for (int h = 0; h < 3; h++) {
      byScores.house();
    }
    for (int j = 0; j < 3; j++) {
      byScores.judge(200, 5, 0);
    }
    for (int b = 0; b < 3; b++) {
      byScores.book(b, b, 0, 100, 30 + b, 5);
      byScores.enter(b);
    }
    byScores.read();
    byScores.pass(2);
    byScores.longList(3);
    byScores.shortList(3);
    byScores.vote(0, 132);
    byScores.vote(1, 213);
    byScores.vote(2, 321);
    c.is("the smaller score is out", byScores.end(), 2);
    PrizeHouse byNumbers = equals(3);
    byNumbers.vote(0, 132);
    byNumbers.vote(1, 213);
    byNumbers.vote(2, 321);
    c.is("the greater number is out", byNumbers.end(), 1);
    PrizeHouse again = equals(3);
    again.vote(0, 123);
    again.vote(0, 321);
    c.is("in place of the former order", again.end(), 2);
    for (int phase = 0; phase < 5; phase++) {
      if (phase != 3) {
        PrizeHouse other = Scenes.inPhase(phase);
        c.refuses(other, "end in phase " + phase, STATE, other::end);
      }
    }
  }

  private static void counting() {
    c.part("promise 16, counting");
    PrizeHouse half = equals(4);
    half.vote(0, 123);
    half.vote(1, 123);
    half.vote(2, 321);
    half.vote(3, 321);
    c.is("half is not more than half", half.end(), 0);
    PrizeHouse half2 = equals(4);
    half2.vote(0, 312);
    half2.vote(1, 312);
    half2.vote(2, 123);
    half2.vote(3, 213);
    c.is("half, then the rest comes together", half2.wins(0), 0);
    PrizeHouse conflict = equals(3);
    conflict.vote(0, 132);
    conflict.vote(1, 213);
    conflict.vote(2, 213);
    conflict.conflict(1, 1);
    c.is("an order goes on to the next one", conflict.end(), 0);
    PrizeHouse forNone = equals(3);
    forNone.vote(0, 321);
    forNone.vote(1, 123);
    forNone.vote(2, 123);
    for (int author = 0; author < 3; author++) {
      forNone.conflict(1, author);
      forNone.conflict(2, author);
    }
    c.is("orders for none", forNone.end(), 2);
  }

  private static void strip() {
    c.part("promise 17");
    PrizeHouse p = Scenes.shortListed(3);
    p.vote(0, 123);
    p.vote(1, 132);
    p.vote(2, 213);
    c.is("end", p.end(), 0);
    c.is("won", p.ofHouse(0, 4), 1);
    p.conflict(2, 1);
    c.is("by conflicts as they are then", p.strip(), 2);
    c.is("winner", p.many(9), 2);
    c.is("stripped", p.many(11), 1);
    c.is("it stays on its lists", p.ofBook(0, 7), 2);
    c.is("longlist", p.many(7), 63);
    c.is("shortlist", p.many(8), 7);
    c.is("it has not won", p.ofHouse(0, 4), 0);
    c.is("the other has", p.ofHouse(2, 4), 1);
    c.is("phase", p.many(1), 4);
    c.is("strip", p.strip(), 1);
    c.is("strip, nobody is left", p.strip(), -1);
    c.is("winner", p.many(9), -1);
    c.is("stripped", p.many(11), 3);
    c.refuses(p, "there is none", STATE, p::strip);
    PrizeHouse second = Scenes.shortListed(3);
    second.vote(0, 213);
    second.vote(1, 213);
    second.vote(2, 321);
    c.is("end", second.end(), 1);
    c.is("by orders as they are", second.strip(), 0);
    c.is("strip", second.strip(), 2);
    PrizeHouse third = Scenes.shortListed(3);
    third.vote(0, 321);
    third.vote(1, 231);
    third.vote(2, 132);
    c.is("end", third.end(), 1);
    c.is("by all orders", third.strip(), 2);
    for (int phase = 0; phase < 4; phase++) {
      PrizeHouse other = Scenes.inPhase(phase);
      c.refuses(other, "strip in phase " + phase, STATE, other::strip);
    }
  }

  private static void next() {
    c.part("promise 18");
    PrizeHouse p = Scenes.longListed(4);
    p.points(0, 1, 12);
    p.shortList(3);
    p.vote(0, 213);
    p.vote(1, 213);
    p.print(0, 500);
    p.end();
    long coins = p.ofHouse(1, 0);
    c.is("next", p.next(), 1);
    int[] due = {1, 0, 3, 3, 6, 3, 0, 0, 0, -1, 1, 0, 0, 18, 10};
    for (int what = 0; what < due.length; what++) {
      c.is("many(" + what + ")", p.many(what), due[what]);
    }
    int[] judge = {200, 0, 0, 0, 0, 0, 0, 12};
    for (int what = 0; what < judge.length; what++) {
      c.is("ofJudge(0, " + what + ")", p.ofJudge(0, what), judge[what]);
    }
    for (int b = 0; b < 6; b++) {
      c.is("mark(0, " + b + ")", p.mark(0, b), -1);
      c.is("score of " + b, p.ofBook(b, 8), 0);
      c.is("points of " + b, p.ofBook(b, 10), 0);
      c.is("standing of " + b, p.ofBook(b, 7), 0);
    }
    c.isDouble("meanMark()", p.meanMark(), 0.0);
    c.is("stock stays", p.ofBook(0, 2), 500);
    c.is("coins stay", p.ofHouse(1, 0), coins);
    c.is("quotas stay by the longlist", p.ofHouse(0, 1), 4);
    c.is("quotas stay by the longlist", p.ofHouse(2, 1), 3);
    c.is("the winner ever", p.ofHouse(1, 4), 1);
    int[] merits = {1, 2, 4};
    for (int b = 6; b < 9; b++) {
      p.book(b % 3, b, 0, 100, merits[b - 6], 5);
      p.enter(b);
    }
    p.read();
    p.pass(2);
    // Marks are 11, 12 and 14: 370 in all, 123 in the mean.
    c.is("scores by the marks of this year alone", p.ofBook(6, 8), 500 - 13);
    c.is("scores by the marks of this year alone", p.ofBook(8, 8), 500 + 17);
    c.isDouble("meanMark() of this year alone", p.meanMark(), 37.0 / 3.0);
    for (int phase = 0; phase < 4; phase++) {
      PrizeHouse other = Scenes.inPhase(phase);
      c.refuses(other, "next in phase " + phase, STATE, other::next);
    }
  }

  public static void main(String[] args) {
    enter();
    enterInYears();
    callIn();
    read();
    print();
    passDays();
    passPages();
    passSales();
    longList();
    longListOfHouses();
    longListByMarks();
    points();
    shortList();
    shortListTies();
    vote();
    end();
    counting();
    strip();
    next();
    c.close();
  }
}
