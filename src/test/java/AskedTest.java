/** Promises 19 to 24: what one asks. */
public final class AskedTest {
  private static final Class<IndexOutOfBoundsException> INDEX = IndexOutOfBoundsException.class;
  private static final Class<IllegalArgumentException> ARGUMENT = IllegalArgumentException.class;
  private static final Check c = new Check("AskedTest");

  private static void ofHouse(PrizeHouse p, int house, int... due) {
    for (int what = 0; what < due.length; what++) {
      c.is("ofHouse(" + house + ", " + what + ")", p.ofHouse(house, what), due[what]);
    }
  }

  private static void ofBook(PrizeHouse p, int book, int... due) {
    for (int what = 0; what < due.length; what++) {
      c.is("ofBook(" + book + ", " + what + ")", p.ofBook(book, what), due[what]);
    }
  }

  private static void ofJudge(PrizeHouse p, int judge, int... due) {
    for (int what = 0; what < due.length; what++) {
      c.is("ofJudge(" + judge + ", " + what + ")", p.ofJudge(judge, what), due[what]);
    }
  }

  private static void houses() {
    c.part("promise 19");
    PrizeHouse p = Scenes.told();
    p.print(1, 2);
    p.enter(0);
    p.callIn(0, 3);
    p.enter(1);
    ofHouse(p, 0, 85, 2, 1, 2, 0);
    ofHouse(p, 1, 90, 2, 1, 2, 0);
    ofHouse(p, 2, 100, 2, 0, 2, 0);
    p.pass(3);
    ofHouse(p, 1, 92, 2, 1, 2, 0);
    p.enter(2);
    Scenes.finishYear(p);
    ofHouse(p, 0, 85, 4, 0, 2, 1);
    ofHouse(p, 1, 92, 3, 0, 2, 0);
    ofHouse(p, 2, 90, 3, 0, 2, 0);
    for (int b = 6; b < 9; b++) {
      p.book(0, b, 0, 100, 1, 1);
      p.enter(b);
    }
    Scenes.finishYear(p);
    ofHouse(p, 0, 55, 4, 0, 5, 2);
    ofHouse(p, 2, 90, 2, 0, 2, 0);
    c.refuses(p, "house -1", INDEX, () -> p.ofHouse(-1, 0));
    c.refuses(p, "house 3", INDEX, () -> p.ofHouse(3, 5));
    c.refuses(p, "what -1", ARGUMENT, () -> p.ofHouse(0, -1));
    c.refuses(p, "what 5", ARGUMENT, () -> p.ofHouse(0, 5));
  }

  private static void books() {
    c.part("promise 20");
    PrizeHouse p = Scenes.read();
    p.book(1, 9, 0, 99, 1, 1);
    ofBook(p, 4, 1, 4, 0, 0, 3, 1, 1, 0, 350, 3, 0);
    ofBook(p, 6, 1, 9, 0, 0, 0, 0, 0, 0, 0, 0, 0);
    p.print(4, 2);
    p.pass(3);
    p.conflict(2, 4);
    ofBook(p, 4, 1, 4, 0, 2, 4, 1, 1, 0, 350, 2, 0);
    p.longList(5);
    p.points(0, 4, 3);
    p.points(1, 4, 4);
    p.points(1, 0, 5);
    p.conflict(1, 4);
    ofBook(p, 4, 1, 4, 0, 2, 4, 1, 1, 1, 350, 1, 3);
    p.shortList(2);
    c.is("on the shortlist", p.ofBook(4, 7), 2);
    c.is("on the shortlist", p.ofBook(0, 7), 2);
    c.is("on the longlist alone", p.ofBook(1, 7), 1);
    c.is("on none", p.ofBook(5, 7), 0);
    p.end();
    c.is("the winner", p.ofBook(0, 7), 3);
    p.conflict(0, 4);
    ofBook(p, 4, 1, 4, 0, 2, 4, 1, 1, 2, 0, 0, 0);
    c.refuses(p, "book -1", INDEX, () -> p.ofBook(-1, 0));
    c.refuses(p, "book 7", INDEX, () -> p.ofBook(7, 11));
    c.refuses(p, "what -1", ARGUMENT, () -> p.ofBook(0, -1));
    c.refuses(p, "what 11", ARGUMENT, () -> p.ofBook(0, 11));
  }

  /** Marks of judges 0, 1, 2: book 0 has 40, 35, 22; book 1 has 7, 22, 0; book 2 has 47, 42, 45. */
  private static PrizeHouse uneven() {
    PrizeHouse p = new PrizeHouse();
    p.house();
    p.house();
    p.judge(200, 5, 0);
    p.judge(200, 0, 5);
    p.judge(200, 9, -10);
    p.book(0, 0, 0, 100, 30, 5);
    p.book(0, 1, 0, 100, 7, 0);
    p.book(1, 2, 0, 100, 45, 9);
    for (int b = 0; b < 3; b++) {
      p.enter(b);
    }
    p.read();
    return p;
  }

  private static void scores() {
    c.part("promise 20, scores");
    PrizeHouse p = uneven();
    p.pass(2);
    // The judges' means are 940/3, 990/3 and 670/3: 313, 330 and 223.
    c.is("87, 20 and -3", p.ofBook(0, 8), 500 + 34);
    c.is("-243, -110 and -223", p.ofBook(1, 8), 500 - 192);
    c.is("157, 90 and 227", p.ofBook(2, 8), 500 + 158);
    p.conflict(0, 1);
    c.is("-110 and -223, rounded down", p.ofBook(1, 8), 500 - 167);
    c.is("what counts no more for the score stays in the mean", p.ofBook(0, 8), 500 + 34);
    p.conflict(1, 1);
    p.conflict(2, 1);
    c.is("without any", p.ofBook(1, 8), 0);
  }

  private static void scoresWhileReading() {
    c.part("promise 20, scores while crates are read");
    PrizeHouse p = uneven();
    c.is("ahead of any mark", p.ofBook(0, 8), 0);
    PrizeHouse slow = Scenes.told();
    slow.enter(0);
    slow.enter(4);
    slow.enter(5);
    slow.read();
    slow.pass(1);
    // Two books, of 70 and 30, are read by each.
    c.is("200 above the mean by then", slow.ofBook(0, 8), 700);
    c.is("200 below the mean by then", slow.ofBook(4, 8), 300);
    c.is("none", slow.ofBook(5, 8), 0);
    slow.pass(1);
    c.is("the mean is 400 then", slow.ofBook(0, 8), 800);
  }

  private static void judges() {
    c.part("promise 21");
    PrizeHouse p = Scenes.entered();
    p.conflict(1, 3);
    p.conflict(1, 5);
    ofJudge(p, 0, 200, 0, 0, 0, 0, 0, 0, 12);
    ofJudge(p, 1, 200, 8 + 32, 0, 0, 0, 0, 0, 12);
    p.read();
    ofJudge(p, 0, 200, 0, 6, 600, 0, 0, 0, 12);
    ofJudge(p, 1, 200, 40, 4, 400, 0, 0, 0, 12);
    p.pass(1);
    ofJudge(p, 0, 200, 0, 6, 400, 2, 200, 0, 12);
    p.pass(3);
    ofJudge(p, 0, 200, 0, 6, 0, 6, 600, 0, 12);
    ofJudge(p, 1, 200, 40, 4, 0, 4, 400, 0, 12);
    p.longList(3);
    p.points(0, 1, 3);
    p.points(0, 2, 4);
    p.conflict(0, 2);
    ofJudge(p, 0, 200, 4, 6, 0, 6, 600, 0, 5);
    p.shortList(2);
    p.vote(0, 12);
    ofJudge(p, 0, 200, 4, 6, 0, 6, 600, 1, 5);
    ofJudge(p, 1, 200, 40, 4, 0, 4, 400, 0, 12);
    p.end();
    ofJudge(p, 0, 200, 4, 6, 0, 6, 600, 1, 5);
    c.refuses(p, "judge -1", INDEX, () -> p.ofJudge(-1, 0));
    c.refuses(p, "judge 3", INDEX, () -> p.ofJudge(3, 8));
    c.refuses(p, "what -1", ARGUMENT, () -> p.ofJudge(0, -1));
    c.refuses(p, "what 8", ARGUMENT, () -> p.ofJudge(0, 8));
  }

  private static void marks() {
    c.part("promise 22");
    PrizeHouse p = uneven();
    c.is("without one", p.mark(0, 0), -1);
    p.pass(2);
    int[][] due = {{40, 7, 47}, {35, 22, 42}, {22, 0, 45}};
    for (int j = 0; j < 3; j++) {
      for (int b = 0; b < 3; b++) {
        c.is("mark(" + j + ", " + b + ")", p.mark(j, b), due[j][b]);
      }
    }
    p.conflict(0, 0);
    c.is("in conflict, too", p.mark(0, 0), 40);
    c.refuses(p, "judge -1", INDEX, () -> p.mark(-1, 0));
    c.refuses(p, "judge 3", INDEX, () -> p.mark(3, 0));
    c.refuses(p, "book -1", INDEX, () -> p.mark(0, -1));
    c.refuses(p, "book 3", INDEX, () -> p.mark(0, 3));
    p.longList(3);
    p.shortList(2);
    p.end();
    c.is("until the year is over", p.mark(2, 2), 45);
    p.next();
    c.is("gone then", p.mark(2, 2), -1);
  }

  private static void many() {
    c.part("promise 23");
    PrizeHouse p = Scenes.longListed(4);
    p.print(1, 7);
    p.pass(1);
    p.shortList(2);
    p.pass(1);
    // Missed: 6 books for three days, then three of 5 and two of 1, then one of 20, two of 5, two of 1
    // and 18 of book 1, of which two were left.
    int[] due = {0, 3, 5, 3, 6, 3, 6, 15, 3, -1, -1, 0, 7, 18 + 17 + 20 + 10 + 2 + 18, 10};
    for (int what = 0; what < due.length; what++) {
      c.is("many(" + what + ")", p.many(what), due[what]);
    }
    p.end();
    c.is("winner", p.many(9), 0);
    p.strip();
    c.is("winner then", p.many(9), 1);
    PrizeHouse sales = Scenes.told();
    sales.print(0, 2);
    sales.print(5, 3);
    sales.pass(4);
    c.is("sold of the first and the last", sales.many(12), 5);
    c.is("missed of all", sales.many(13), 24 - 5);
    c.is("stripped", p.many(11), 1);
    p.next();
    int[] then = {1, 0, 5, 3, 6, 3, 0, 0, 0, -1, 1, 1, 7, 85, 10};
    for (int what = 0; what < then.length; what++) {
      c.is("many(" + what + ")", p.many(what), then[what]);
    }
    for (int b = 6; b < 9; b++) {
      p.book(b % 3, b, 0, 100, 10, 5);
      p.enter(b);
    }
    c.is("entered in this year", p.many(6), 3);
    Scenes.finishYear(p);
    c.is("the winner of the year ahead", p.many(10), 6);
    c.is("stripped ever", p.many(11), 1);
    c.refuses(p, "what -1", ARGUMENT, () -> p.many(-1));
    c.refuses(p, "what 15", ARGUMENT, () -> p.many(15));
  }

  private static void meanMark() {
    c.part("promise 24");
    PrizeHouse p = uneven();
    c.isDouble("without any", p.meanMark(), 0.0);
    p.pass(2);
    c.isDouble("of nine", p.meanMark(), 260.0 / 9.0);
    p.conflict(0, 0);
    p.conflict(1, 1);
    c.isDouble("those in conflict, too", p.meanMark(), 260.0 / 9.0);
    PrizeHouse some = Scenes.reading();
    some.pass(1);
    c.isDouble("while crates are read", some.meanMark(), 65.0);
  }

  public static void main(String[] args) {
    houses();
    books();
    scores();
    scoresWhileReading();
    judges();
    marks();
    many();
    meanMark();
    c.close();
  }
}
