/** Promises 19 to 24, sentence by sentence: the cases on both sides of each border that is named. */
public final class EdgeAskedTest {
  private static final Class<IndexOutOfBoundsException> INDEX = IndexOutOfBoundsException.class;
  private static final Class<IllegalArgumentException> ARGUMENT = IllegalArgumentException.class;
  private static final Check c = new Check("EdgeAskedTest");

  private static void refused() {
    c.part("promise 19, \"if there is no such HOUSE\"");
    c.range(() -> Scenes.with(1, 0), "house, of one", 0, 0, INDEX, (p, v) -> p.ofHouse(v, 0));
    c.range(Scenes::full, "house, of five", 0, 4, INDEX, (p, v) -> p.ofHouse(v, 0));
    c.part("promise 19, \"if what is not 0 to 4\"");
    c.range(Scenes::ended, "what", 0, 4, ARGUMENT, (p, v) -> p.ofHouse(0, v));
    c.refusesIn(Scenes::ended, "house, what", INDEX, p -> p.ofHouse(3, 5));
    c.part("promise 20, \"if there is no such BOOK\"");
    c.refusesIn(() -> Scenes.with(1, 1), "book, of none", INDEX, p -> p.ofBook(0, 0));
    c.range(Scenes::told, "book, of six", 0, 5, INDEX, (p, v) -> p.ofBook(v, 0));
    c.range(Scenes::full, "book, of sixteen", 0, 15, INDEX, (p, v) -> p.ofBook(v, 0));
    c.part("promise 20, \"if what is not 0 to 10\"");
    c.range(Scenes::ended, "what", 0, 10, ARGUMENT, (p, v) -> p.ofBook(0, v));
    c.refusesIn(Scenes::ended, "book, what", INDEX, p -> p.ofBook(6, 11));
    c.part("promise 21, \"if there is no such JUDGE\"");
    c.range(Scenes::told, "judge, of three", 0, 2, INDEX, (p, v) -> p.ofJudge(v, 0));
    c.range(Scenes::full, "judge, of five", 0, 4, INDEX, (p, v) -> p.ofJudge(v, 0));
    c.part("promise 21, \"if what is not 0 to 7\"");
    c.range(Scenes::ended, "what", 0, 7, ARGUMENT, (p, v) -> p.ofJudge(0, v));
    c.refusesIn(Scenes::ended, "judge, what", INDEX, p -> p.ofJudge(3, 8));
    c.part("promise 22, \"if there is no such JUDGE, or BOOK\"");
    c.range(Scenes::read, "judge, of three", 0, 2, INDEX, (p, v) -> p.mark(v, 0));
    c.range(Scenes::read, "book, of six", 0, 5, INDEX, (p, v) -> p.mark(0, v));
    c.refusesIn(() -> Scenes.with(1, 1), "book, of none", INDEX, p -> p.mark(0, 0));
    c.refusesIn(EdgeAskedTest::booksAlone, "judge, of none", INDEX, p -> p.mark(0, 0));
    c.part("promise 23, \"if what is not 0 to 14\"");
    c.range(Scenes::ended, "what", 0, 14, ARGUMENT, PrizeHouse::many);
  }

  private static PrizeHouse booksAlone() {
    PrizeHouse p = Scenes.with(1, 0);
    Scenes.tell(p, 0, 0, 100, 0);
    return p;
  }

  private static void houses() {
    c.part("promise 19, \"how many BOOKS it has\"");
    PrizeHouse p = Scenes.with(2, 0);
    for (int b = 0; b < 16; b++) {
      c.is("so far", p.ofHouse(0, 3), b);
      Scenes.tell(p, 0, 0, 100, 0);
    }
    c.is("all there can be", p.ofHouse(0, 3), 16);
    c.is("none at all", p.ofHouse(1, 3), 0);
    c.part("promise 19, \"how often one of them was the WINNER ever (STRIPPED ones not)\"");
    PrizeHouse years = Scenes.with(2, 3);
    int[] strips = {0, 2, 3, 0, 0};
    int[] first = {1, 1, 1, 2, 3};
    int[] second = {0, 1, 1, 1, 1};
    for (int year = 0; year < 5; year++) {
      for (int b = 3 * year; b < 3 * year + 3; b++) {
        Scenes.tell(years, b % 3 == 2 ? 1 : 0, b % 10, 100, 20);
        years.enter(b);
      }
      Scenes.readAll(years);
      years.longList(3);
      years.shortList(3);
      int ahead = years.ofHouse(0, 4);
      years.end();
      c.is("one more as year " + year + " ends", years.ofHouse(0, 4), ahead + 1);
      for (int k = 0; k < strips[year]; k++) {
        years.strip();
      }
      c.is("house 0, year " + year, years.ofHouse(0, 4), first[year]);
      c.is("house 1, year " + year, years.ofHouse(1, 4), second[year]);
      years.next();
      c.is("in the next year", years.ofHouse(0, 4), first[year]);
    }
  }

  private static void standings() {
    c.part("promise 20, \"7 1 ... on the longlist ..., 2 ... shortlist, 3 ... WINNER, otherwise 0\"");
    int[][] due = {{0, 0, 0}, {0, 0, 0}, {1, 1, 1}, {2, 2, 2}, {3, 2, 2}};
    for (int phase = 0; phase < 5; phase++) {
      PrizeHouse p = Scenes.inPhase(phase);
      for (int b = 0; b < 3; b++) {
        c.is("book " + b + " in phase " + phase, p.ofBook(b, 7), due[phase][b]);
      }
    }
    PrizeHouse p = Scenes.longListed(4);
    p.shortList(2);
    p.end();
    int[] mixed = {3, 2, 1, 1, 0, 0};
    for (int b = 0; b < 6; b++) {
      c.is("book " + b, p.ofBook(b, 7), mixed[b]);
    }
    p.next();
    c.is("the winner of the year ahead", p.ofBook(0, 7), 0);
    PrizeHouse last = Scenes.shortListed(3);
    last.vote(0, 321);
    last.end();
    int[] third = {2, 2, 3, 1, 1, 1};
    for (int b = 0; b < 6; b++) {
      c.is("book " + b + ", the third wins", last.ofBook(b, 7), third[b]);
    }
    c.part("promise 20, \"5 1 if it is ELIGIBLE ..., 6 1 if it is ENTERED in this YEAR\"");
    for (int phase = 0; phase < 5; phase++) {
      PrizeHouse q = Scenes.inPhase(phase);
      int fresh = Scenes.tell(q, 0, 7, 100, 1);
      int thin = Scenes.tell(q, 0, 7, 99, 1);
      c.is("entered, eligible", q.ofBook(5, 5), 1);
      c.is("entered", q.ofBook(5, 6), 1);
      c.is("told, eligible", q.ofBook(fresh, 5), 1);
      c.is("told, not entered", q.ofBook(fresh, 6), 0);
      c.is("not eligible", q.ofBook(thin, 5), 0);
    }
    c.is("entered in the year ahead", Scenes.nextYear().ofBook(5, 6), 0);
  }

  /** Book 0 and 1 have the same marks, book 2 has 4 more by judge 0, and the same by 1 and 2. */
  private static PrizeHouse scored() {
    PrizeHouse p = Scenes.with(3, 0);
    p.judge(200, 6, 0);
    p.judge(200, 5, 0);
    p.judge(200, 5, 0);
    for (int b = 0; b < 3; b++) {
      p.book(b, b, 0, 100, 30, b == 2 ? 6 : 4);
      p.enter(b);
    }
    Scenes.readAll(p);
    return p;
  }

  private static void scores() {
    c.part("terms 2, \"(each rounded down)\"; \"rounded down (below 0, too)\"");
    PrizeHouse p = scored();
    // Judge 0: 360, 360 and 400 have a mean of 373, so that is -13 and 27; of the others it is 0.
    c.is("-13 in three", p.ofBook(0, 8), 495);
    c.is("27 in three", p.ofBook(2, 8), 509);
    p.conflict(2, 0);
    p.conflict(2, 2);
    c.is("-13 in two", p.ofBook(0, 8), 493);
    c.is("27 in two", p.ofBook(2, 8), 513);
    p.conflict(1, 0);
    p.conflict(1, 2);
    c.is("-13 alone", p.ofBook(0, 8), 487);
    c.is("27 alone", p.ofBook(2, 8), 527);
    c.is("of no conflict", p.ofBook(1, 8), 495);
    c.part("terms 2, \"0 without any\"");
    c.is("one mark", p.ofBook(0, 9), 1);
    p.conflict(0, 0);
    c.is("none", p.ofBook(0, 8), 0);
    c.is("none", p.ofBook(0, 9), 0);
    c.is("ahead of reading", Scenes.entered().ofBook(0, 8), 0);
    c.is("as reading begins", Scenes.reading().ofBook(0, 8), 0);
    c.is("never entered", Scenes.told().ofBook(0, 8), 0);
    PrizeHouse first = Scenes.reading();
    first.pass(1);
    c.is("as two are marked", first.ofBook(0, 8), 550);
    c.is("the other one of two", first.ofBook(1, 8), 450);
    c.is("the third", first.ofBook(2, 8), 0);
    c.part("promise 20, \"9 how many MARKS it has by JUDGES not in CONFLICT\"");
    PrizeHouse marks = Scenes.reading();
    c.is("none yet", marks.ofBook(5, 9), 0);
    marks.pass(3);
    for (int j = 0; j < 3; j++) {
      c.is("marks, " + j + " in conflict", marks.ofBook(5, 9), 3 - j);
      marks.conflict(j, 5);
    }
    c.is("all in conflict", marks.ofBook(5, 9), 0);
    c.part("promise 20, \"10 sum of POINTS that count\"");
    PrizeHouse points = Scenes.evenLong(5, 3);
    c.is("none", points.ofBook(2, 10), 0);
    for (int j = 0; j < 5; j++) {
      points.points(j, 2, 12);
      c.is("by " + (j + 1), points.ofBook(2, 10), 12 * (j + 1));
    }
    for (int j = 0; j < 5; j++) {
      points.conflict(j, 2);
      c.is("less " + (j + 1), points.ofBook(2, 10), 12 * (4 - j));
    }
  }

  private static void judges() {
    c.part("promise 21, \"1 the set of AUTHORS in CONFLICT\"");
    PrizeHouse p = Scenes.entered();
    c.is("none", p.ofJudge(0, 1), 0);
    p.conflict(0, 9);
    c.is("the last", p.ofJudge(0, 1), 512);
    Scenes.disown(p, 0);
    c.is("all", p.ofJudge(0, 1), 1023);
    c.part("promise 21, \"2 ... in the CRATE (read ones, too), 3 PAGES ... not read\", 4 and 5");
    p.read();
    int[][] due = {{0, 0, 0, 0}, {6, 600, 0, 0}};
    for (int j = 0; j < 2; j++) {
      for (int what = 2; what < 6; what++) {
        c.is("judge " + j + ", " + what, p.ofJudge(j, what), due[j][what - 2]);
      }
    }
    int[][] days = {{6, 400, 2, 200}, {6, 200, 4, 400}, {6, 0, 6, 600}, {6, 0, 6, 600}};
    for (int[] day : days) {
      p.pass(1);
      for (int what = 2; what < 6; what++) {
        c.is("judge 2, " + what + ", day " + p.many(2), p.ofJudge(2, what), day[what - 2]);
      }
    }
    p.longList(8);
    p.shortList(2);
    p.vote(1, 12);
    c.is("read ones, as one votes", p.ofJudge(2, 2), 6);
    c.part("promise 21, \"6 1 if there is an ORDER, otherwise 0\"");
    c.is("there is one", p.ofJudge(1, 6), 1);
    c.is("there is none", p.ofJudge(0, 6), 0);
    p.end();
    c.is("until the year is over", p.ofJudge(1, 6), 1);
    c.is("behind the end", p.ofJudge(2, 6), 0);
    PrizeHouse half = Scenes.with(3, 3);
    for (int b = 0; b < 3; b++) {
      Scenes.tell(half, b, b, 201, 30);
      half.enter(b);
    }
    half.read();
    half.pass(1);
    c.is("one page of a book is left", half.ofJudge(0, 4), 0);
    c.is("pages not read", half.ofJudge(0, 3), 403);
  }

  private static void marks() {
    c.part("promise 22, \"the MARK in this YEAR; NONE without one\"");
    PrizeHouse p = Scenes.reading();
    p.pass(1);
    c.is("read", p.mark(0, 1), 60);
    c.is("not read", p.mark(0, 2), -1);
    p.pass(2);
    Scenes.disown(p, 0);
    c.is("in conflict, too", p.mark(0, 1), 60);
    c.is("a judge without that book", notHandedOut(3), -1);
    c.is("a judge with it", notHandedOut(2), 40);
    PrizeHouse zero = Scenes.with(3, 3);
    for (int b = 0; b < 3; b++) {
      zero.book(b, b, 0, 100, 0, 0);
      zero.enter(b);
    }
    Scenes.readAll(zero);
    c.is("a mark of 0 is one", zero.mark(0, 0), 0);
    c.is("it counts", zero.ofBook(0, 9), 3);
    c.is("it makes a score", zero.ofBook(0, 8), 500);
  }

  private static int notHandedOut(int judge) {
    PrizeHouse p = Scenes.evenLong(4, 3);
    return p.mark(judge, 0);
  }

  private static void many() {
    c.part("promise 23, \"7 the set ... on the longlist ... (the sum of 2^b), 8 ... shortlist\"");
    PrizeHouse p = Scenes.full();
    for (int b = 0; b < 10; b++) {
      p.enter(b);
    }
    for (int j = 0; j < 5; j++) {
      p.callIn(j, 11 + j);
    }
    Scenes.readAll(p);
    c.is("none yet", p.many(7), 0);
    // Merits rise by numbers: 15 is of house 0, 14 of 4, 13 of 3, 12 of 2, 11 of 1, 9 of 4 and so on.
    p.longList(8);
    c.is("longlist", p.many(7), 0xFB80);
    c.is("no shortlist yet", p.many(8), 0);
    p.shortList(5);
    c.is("shortlist", p.many(8), 0xF800);
    c.is("the longlist stays", p.many(7), 0xFB80);
    c.part("promise 23, \"9 the WINNER of this YEAR (NONE), 10 ... of the YEAR ahead (NONE)\"");
    c.is("none yet", p.many(9), -1);
    p.end();
    c.is("the greatest number", p.many(9), 15);
    c.is("none in the year ahead", p.many(10), -1);
    p.next();
    c.is("none in the next year", p.many(9), -1);
    c.is("that of the year ahead", p.many(10), 15);
    PrizeHouse gone = Scenes.ended();
    c.is("book 0", gone.many(9), 0);
    for (int k = 0; k < 3; k++) {
      gone.strip();
    }
    gone.next();
    c.is("none, as all were stripped", gone.many(10), -1);
    c.is("stripped ever", gone.many(11), 3);
    c.part("promise 23, 0 to 6 and 11 to 14, none at all and as many as there can be");
    PrizeHouse most = Scenes.fullEntered();
    int[] due = {0, 0, 0, 5, 16, 5, 15, 0, 0, -1, -1, 0, 0, 0, 10};
    int[] none = {0, 0, 0, 0, 0, 0, 0, 0, 0, -1, -1, 0, 0, 0, 10};
    for (int what = 0; what < due.length; what++) {
      c.is("many(" + what + ") of a full one", most.many(what), due[what]);
      c.is("many(" + what + ") of a new one", new PrizeHouse().many(what), none[what]);
    }
    for (int b = 0; b < 16; b++) {
      most.print(b, b < 8 ? 60 : 1);
    }
    most.pass(60);
    c.is("sold ever", most.many(12), 8 * 60 + 8);
    c.is("missed ever", most.many(13), 8 * 59);
    for (int phase = 0; phase < 5; phase++) {
      c.is("the phase", Scenes.inPhase(phase).many(1), phase);
      c.is("entered in phase " + phase, Scenes.inPhase(phase).many(6), 6);
    }
    c.is("entered in the next year", Scenes.nextYear().many(6), 0);
  }

  private static void meanMark() {
    c.part("promise 24, \"0 without any\"");
    c.isDouble("of a new one", new PrizeHouse().meanMark(), 0.0);
    c.isDouble("as reading begins", Scenes.reading().meanMark(), 0.0);
    c.isDouble("in the next year", Scenes.nextYear().meanMark(), 0.0);
    c.part("promise 24, \"(those in CONFLICT, too), not rounded\"");
    c.isDouble("of all", Scenes.read().meanMark(), 45.0);
    c.isDouble("all in conflict", Scenes.disowned().meanMark(), 45.0);
    c.isDouble("not rounded", scored().meanMark(), 340.0 / 9.0);
    PrizeHouse one = Scenes.with(3, 1);
    one.judge(20, 5, 0);
    one.judge(20, 5, 0);
    for (int b = 0; b < 3; b++) {
      Scenes.tell(one, b, b, 120, 17 + b);
      one.enter(b);
    }
    one.read();
    one.pass(1);
    c.isDouble("one mark", one.meanMark(), 27.0);
    one.pass(1);
    c.isDouble("three marks", one.meanMark(), 28.0);
    one.pass(4);
    c.isDouble("five marks", one.meanMark(), (27 + 28 + 29 + 27 + 27) / 5.0);
    for (int phase = 2; phase < 5; phase++) {
      c.isDouble("in phase " + phase, Scenes.inPhase(phase).meanMark(), 45.0);
    }
    // Marks of books 0 to 14 are 10, 13 and so on to 52, each by three judges.
    PrizeHouse full = Scenes.fullEntered();
    Scenes.readAll(full);
    c.isDouble("as many as there can be", full.meanMark(), 31.0);
  }

  private static void asking() {
    c.part("\"what one asks\" changes nothing");
    for (int phase = 0; phase < 5; phase++) {
      int then = phase;
      Check.Scene scene = () -> Scenes.inPhase(then);
      c.leavesIn(scene, "meanMark in phase " + phase, PrizeHouse::meanMark);
      c.leavesIn(scene, "all questions in phase " + phase, EdgeAskedTest::askAll);
    }
  }

  private static int askAll(PrizeHouse p) {
    int sum = 0;
    for (int what = 0; what <= 14; what++) {
      sum += p.many(what);
      sum += what <= 4 ? p.ofHouse(0, what) : 0;
      sum += what <= 10 ? p.ofBook(0, what) : 0;
      sum += what <= 7 ? p.ofJudge(0, what) : 0;
    }
    return sum + p.mark(0, 0);
  }

  public static void main(String[] args) {
    refused();
    houses();
    standings();
    scores();
    judges();
    marks();
    many();
    meanMark();
    asking();
    c.close();
  }
}
