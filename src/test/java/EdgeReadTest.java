/** Promises 9 to 11, sentence by sentence: the cases on both sides of each border that is named. */
public final class EdgeReadTest {
  private static final Class<IndexOutOfBoundsException> INDEX = IndexOutOfBoundsException.class;
  private static final Class<IllegalArgumentException> ARGUMENT = IllegalArgumentException.class;
  private static final Class<IllegalStateException> STATE = IllegalStateException.class;
  private static final Check c = new Check("EdgeReadTest");

  /** So many judges, and so many books entered, each of a house of its own, 100 pages each. */
  private static PrizeHouse ready(int judges, int books) {
    PrizeHouse p = Scenes.with(5, judges);
    for (int b = 0; b < books; b++) {
      Scenes.tell(p, b, b, 100, 30 - b);
      p.enter(b);
    }
    return p;
  }

  private static void readRefused() {
    c.part("promise 9, \"less than 3 JUDGES, or ENTERED BOOKS\"");
    c.takesIn(() -> ready(3, 3), "three and three", PrizeHouse::read);
    c.refusesIn(() -> ready(2, 3), "two judges", STATE, PrizeHouse::read);
    c.refusesIn(() -> ready(2, 5), "two judges, five books", STATE, PrizeHouse::read);
    c.refusesIn(() -> ready(3, 2), "two books", STATE, PrizeHouse::read);
    c.refusesIn(() -> ready(5, 2), "five judges, two books", STATE, PrizeHouse::read);
    c.refusesIn(() -> ready(0, 3), "no judges", STATE, PrizeHouse::read);
    c.refusesIn(() -> ready(3, 0), "no books", STATE, PrizeHouse::read);
    c.refusesIn(Scenes::told, "six books, none is entered", STATE, PrizeHouse::read);
    c.refusesIn(Scenes::nextYear, "entered in the year ahead", STATE, PrizeHouse::read);
    c.part("promise 9, \"if the PHASE is not 0\"");
    c.refusesIn(Scenes::reading, "again", STATE, PrizeHouse::read);
    for (int phase = 1; phase < 5; phase++) {
      int then = phase;
      c.refusesIn(() -> Scenes.inPhase(then), "phase " + phase, STATE, PrizeHouse::read);
    }
    PrizeHouse called = ready(3, 2);
    Scenes.tell(called, 1, 4, 100, 1);
    called.callIn(0, 2);
    c.is("one that was called in is the third", called.read(), 9);
    c.is("the phase then", called.many(1), 1);
  }

  private static void readers() {
    c.part("terms 2, \"to 3 JUDGES who are not in CONFLICT ... (or to all such, if fewer)\"");
    for (int judges = 3; judges <= 5; judges++) {
      for (int against = 0; against <= judges; against++) {
        PrizeHouse p = ready(judges, 3);
        for (int j = 0; j < against; j++) {
          p.conflict(j, 1);
        }
        int due = Math.min(3, judges - against);
        c.is("marks by " + judges + " judges, " + against + " in conflict", p.read(), 6 + due);
        Scenes.onDay(p, 5);
        c.is("marks there are", p.ofBook(1, 9), due);
      }
    }
    c.part("promise 9, \"how many MARKS there will be\"");
    PrizeHouse none = Scenes.reading();
    c.is("marks of six by three", none.pass(3), 18);
    PrizeHouse all = Scenes.fullEntered();
    c.is("as many as there can be", all.read(), 45);
    int books = 0;
    for (int j = 0; j < 5; j++) {
      books += all.ofJudge(j, 2);
      c.is("crate of judge " + j, all.ofJudge(j, 2), 9);
      c.is("pages of judge " + j, all.ofJudge(j, 3), 900);
    }
    c.is("in all crates", books, 45);
    PrizeHouse three = Scenes.with(5, 3);
    for (int b = 0; b < 13; b++) {
      Scenes.tell(three, b % 5, b % 10, 100, b);
    }
    for (int b = 0; b < 10; b++) {
      three.enter(b);
    }
    for (int j = 0; j < 3; j++) {
      three.callIn(j, 10 + j);
    }
    c.is("three judges read each of thirteen", three.read(), 39);
    c.is("a crate of thirteen", three.ofJudge(2, 2), 13);
    c.is("all are read", three.pass(10), 39);
  }

  private static void spread(int first, int second, int third, int... due) {
    PrizeHouse p = Scenes.with(3, 5);
    int[] pages = {first, second, third};
    for (int b = 0; b < 3; b++) {
      Scenes.tell(p, b, b, pages[b], 30);
      p.enter(b);
    }
    p.read();
    for (int j = 0; j < 5; j++) {
      c.is(first + ", " + second + ", " + third + ": pages of judge " + j, p.ofJudge(j, 3), due[j]);
    }
  }

  private static void crates() {
    c.part("terms 2, \"those with the fewest PAGES ... of several the smallest numbers\"");
    spread(100, 100, 100, 200, 200, 200, 200, 100);
    spread(100, 101, 100, 201, 200, 200, 201, 101);
    spread(101, 100, 100, 201, 201, 101, 200, 200);
    PrizeHouse p = ready(4, 3);
    p.conflict(0, 0);
    p.conflict(3, 1);
    p.conflict(3, 2);
    p.read();
    // Book 0 goes to 1, 2, 3; book 1 to 0, 1, 2; book 2 to 0, who has fewer, and to 1 and 2.
    int[] counts = {2, 3, 3, 1};
    for (int j = 0; j < 4; j++) {
      c.is("books of judge " + j, p.ofJudge(j, 2), counts[j]);
    }
    c.part("terms 2, \"Each CRATE is read in that order\"");
    PrizeHouse order = Scenes.with(3, 3);
    for (int b = 0; b < 3; b++) {
      Scenes.tell(order, b, b, 150, 30);
    }
    Scenes.enterAll(order, 2, 0, 1);
    order.read();
    int[][] due = {{40, -1, -1}, {40, 40, -1}, {40, 40, 40}};
    for (int day = 0; day < 3; day++) {
      order.pass(1);
      for (int b = 0; b < 3; b++) {
        c.is("book " + b + " on day " + day, order.mark(1, b), due[day][b]);
      }
    }
  }

  /** Judge 0 of that speed, two more of 200; three books of those pages are in each crate. */
  private static PrizeHouse reader(int speed, int... pages) {
    PrizeHouse p = Scenes.with(3, 0);
    p.judge(speed, 5, 0);
    p.judge(200, 5, 0);
    p.judge(200, 5, 0);
    for (int b = 0; b < 3; b++) {
      Scenes.tell(p, b, b, pages[b], 30);
      p.enter(b);
    }
    p.read();
    return p;
  }

  private static void after(PrizeHouse p, int day, int due) {
    Scenes.onDay(p, day);
    c.is("pages that judge 0 read by day " + day, p.ofJudge(0, 5), due);
  }

  private static void pace() {
    c.part("terms 2, \"less 5 for each whole 500 PAGES ... ahead of this DAY\"");
    PrizeHouse p = reader(166, 800, 800, 800);
    after(p, 3, 498);
    after(p, 4, 498 + 166);
    after(p, 5, 498 + 166 + 161);
    p = reader(100, 800, 800, 800);
    after(p, 5, 500);
    after(p, 6, 595);
    p = reader(167, 800, 800, 800);
    after(p, 3, 501);
    after(p, 4, 501 + 162);
    p = reader(58, 800, 800, 800);
    after(p, 18, 999);
    after(p, 19, 999 + 53);
    after(p, 20, 999 + 53 + 48);
    c.part("terms 2, \"10 at least\"");
    p = reader(25, 800, 800, 800);
    after(p, 20, 500);
    after(p, 45, 1000);
    after(p, 46, 1015);
    after(p, 79, 1510);
    after(p, 80, 1520);
    after(p, 128, 2000);
    after(p, 129, 2010);
    p = reader(20, 800, 800, 800);
    after(p, 25, 500);
    after(p, 59, 1010);
    after(p, 60, 1020);
    after(p, 108, 1500);
    after(p, 109, 1510);
    p = reader(21, 800, 800, 800);
    after(p, 24, 504);
    after(p, 55, 504 + 31 * 16);
    after(p, 56, 1011);
    c.part("terms 2, \"in this YEAR\"");
    PrizeHouse next = Scenes.with(3, 3);
    for (int b = 0; b < 6; b++) {
      Scenes.tell(next, b % 3, b, 300, 30);
    }
    Scenes.enterAll(next, 0, 1, 2);
    Scenes.finishYear(next);
    Scenes.enterAll(next, 3, 4, 5);
    next.read();
    c.is("none is read by then", next.ofJudge(0, 5), 0);
    next.pass(1);
    c.is("the whole speed in the next year", next.ofJudge(0, 5), 200);
  }

  private static void ends() {
    c.part("terms 2, \"or what is left of the CRATE\"");
    PrizeHouse p = reader(200, 100, 100, 203);
    after(p, 2, 400);
    c.is("left", p.ofJudge(0, 3), 3);
    c.is("the last three pages", p.pass(1), 3);
    c.is("pages", p.ofJudge(0, 5), 403);
    c.is("none is left", p.ofJudge(0, 3), 0);
    c.is("a day without any", p.pass(1), 0);
    c.is("pages stay", p.ofJudge(0, 5), 403);
    c.part("terms 2, \"behind the last page of a BOOK goes on with the next one\"");
    c.is("199 pages", reader(200, 199, 201, 100).pass(1), 3);
    c.is("199 and 201 pages", reader(200, 199, 201, 100).pass(2), 6);
    c.is("199 and 202 pages", reader(200, 199, 202, 100).pass(2), 3);
    c.is("200 pages", reader(200, 200, 201, 100).pass(1), 3);
    c.is("200 and 200 pages", reader(200, 200, 200, 100).pass(2), 6);
    c.is("201 pages", reader(200, 201, 100, 100).pass(1), 0);
    c.is("401 pages in all", reader(200, 201, 100, 100).pass(2), 6);
    c.is("the mark of the last page", marksOnDayOne(200), 40);
    c.is("no mark one page ahead of it", marksOnDayOne(201), -1);
    PrizeHouse small = Scenes.ended();
    small.rules(7, 50, 800, 10);
    small.next();
    for (int b = 6; b < 11; b++) {
      Scenes.tell(small, b % 3, b - 6, 50, 30);
      small.enter(b);
    }
    small.read();
    c.is("four books in a day", small.pass(1), 12);
    c.is("not the fifth", small.mark(0, 10), -1);
    c.is("the fifth", small.pass(1), 3);
  }

  private static int marksOnDayOne(int pages) {
    PrizeHouse p = reader(200, pages, 100, 100);
    p.pass(1);
    return p.mark(0, 0);
  }

  private static void onlyInReading() {
    c.part("terms 2, \"In PHASE 1\"");
    PrizeHouse entry = Scenes.entered();
    c.is("in entry", entry.pass(9), 0);
    c.is("days ahead do not count", entry.read(), 18);
    c.is("pages", entry.ofJudge(0, 5), 0);
    c.is("the first day of reading", entry.pass(1), 6);
    for (int phase = 2; phase < 5; phase++) {
      c.is("phase " + phase, Scenes.inPhase(phase).pass(60), 0);
    }
    PrizeHouse empty = Scenes.entered();
    for (int j = 0; j < 3; j++) {
      for (int author = 0; author < 6; author++) {
        empty.conflict(j, author);
      }
    }
    c.is("no crate has a book", empty.read(), 0);
    c.is("nothing is read", empty.pass(60), 0);
    c.is("all of none is read", empty.longList(3), 0);
  }

  private static int markBy(int taste, int lean, int merit, int flavour) {
    PrizeHouse p = Scenes.with(1, 2);
    p.judge(200, taste, lean);
    p.house();
    p.book(0, 0, 0, 100, merit, flavour);
    Scenes.tell(p, 0, 1, 100, 1);
    Scenes.tell(p, 1, 2, 100, 1);
    Scenes.enterAll(p, 0, 1, 2);
    p.read();
    p.pass(2);
    return p.mark(2, 0);
  }

  private static void marks() {
    c.part("terms 2, \"0 at least, 99 at most\"");
    c.is("19 less 18", markBy(9, -10, 19, 0), 1);
    c.is("18 less 18", markBy(9, -10, 18, 0), 0);
    c.is("17 less 18", markBy(9, -10, 17, 0), 0);
    c.is("0 less 18", markBy(9, -10, 0, 0), 0);
    c.is("the least without a difference", markBy(0, -10, 0, 0), 0);
    c.is("one more", markBy(0, -9, 0, 0), 1);
    c.is("the most there is", markBy(9, 10, 60, 9), 80);
    c.part("terms 2, \"the difference of TASTE and FLAVOUR (without a sign)\"");
    c.is("taste 0, flavour 9", markBy(0, 0, 30, 9), 22);
    c.is("taste 9, flavour 0", markBy(9, 0, 30, 0), 22);
    c.is("taste 4, flavour 5", markBy(4, 0, 30, 5), 38);
    c.is("taste 5, flavour 5", markBy(5, 0, 30, 5), 40);
    c.is("taste 6, flavour 5", markBy(6, 0, 30, 5), 38);
  }

  private static void print() {
    c.part("promise 10, \"if there is no such BOOK\"");
    c.refusesIn(() -> Scenes.with(1, 1), "of none", INDEX, p -> p.print(0, 1));
    c.range(Scenes::told, "book, of six", 0, 5, INDEX, (p, v) -> p.print(v, 1));
    c.range(Scenes::full, "book, of sixteen", 0, 15, INDEX, (p, v) -> p.print(v, 1));
    c.part("promise 10, \"if copies is not 1 to 5000\"");
    c.range(Scenes::told, "copies", 1, 5000, ARGUMENT, (p, v) -> p.print(0, v));
    c.part("promise 10, the exception that is named first");
    c.refusesIn(Scenes::told, "book, copies", INDEX, p -> p.print(6, 5001));
    c.part("promise 10, \"its STOCK then (9999 at most)\"");
    PrizeHouse p = Scenes.told();
    c.is("one", p.print(0, 1), 1);
    c.is("5000 more", p.print(0, 5000), 5001);
    c.is("9998", p.print(0, 4997), 9998);
    c.is("9999", p.print(0, 1), 9999);
    c.is("one more", p.print(0, 1), 9999);
    c.is("5000 more", p.print(0, 5000), 9999);
    c.is("the stock", p.ofBook(0, 2), 9999);
    p.print(1, 5000);
    c.is("10000 would be", p.print(1, 5000), 9999);
    p.print(2, 5000);
    c.is("9999 at once", p.print(2, 4999), 9999);
    p.pass(1);
    c.is("9998 and two", p.print(0, 2), 9999);
    c.is("9998 is not cut", p.print(3, 5000) + p.print(3, 4998), 5000 + 9998);
    c.refusesIn(EdgeReadTest::fullStock, "0 copies to a full stock", ARGUMENT, q -> q.print(0, 0));
  }

  private static PrizeHouse fullStock() {
    PrizeHouse p = Scenes.told();
    p.print(0, 5000);
    p.print(0, 5000);
    return p;
  }

  private static void passRefused() {
    c.part("promise 11, \"if days is not 1 to 60\"");
    c.range(Scenes::reading, "days", 1, 60, ARGUMENT, PrizeHouse::pass);
    c.range(PrizeHouse::new, "days of a new prize", 1, 60, ARGUMENT, PrizeHouse::pass);
    c.part("promise 11, \"if DAY would be above 9999\"");
    c.takesIn(() -> unreadOn(9939), "60 from 9939", p -> p.pass(60));
    c.refusesIn(() -> unreadOn(9940), "60 from 9940", STATE, p -> p.pass(60));
    c.takesIn(() -> unreadOn(9940), "59 from 9940", p -> p.pass(59));
    c.takesIn(() -> unreadOn(9998), "1 from 9998", p -> p.pass(1));
    c.refusesIn(() -> unreadOn(9998), "2 from 9998", STATE, p -> p.pass(2));
    c.refusesIn(() -> unreadOn(9999), "1 from 9999", STATE, p -> p.pass(1));
    PrizeHouse last = unreadOn(9998);
    c.is("the last day is read", last.pass(1), 6);
    c.is("it is day 9999", last.many(2), 9999);
    c.part("promise 11, the exception that is named first");
    c.refusesIn(() -> unreadOn(9999), "61 from 9999", ARGUMENT, p -> p.pass(61));
    c.refusesIn(() -> unreadOn(9999), "0 from 9999", ARGUMENT, p -> p.pass(0));
    c.refusesIn(() -> unreadOn(9999), "the most from 9999", ARGUMENT,
        p -> p.pass(Integer.MAX_VALUE));
    c.part("promise 11, days together are days one by one");
    PrizeHouse at = Scenes.reading();
    PrizeHouse by = Scenes.reading();
    at.print(1, 77);
    by.print(1, 77);
    int sum = 0;
    for (int day = 0; day < 60; day++) {
      sum += by.pass(1);
    }
    c.is("read", at.pass(60), sum);
    c.is("the digest", at.digest(), by.digest());
  }

  /** Reading has begun on that day. */
  private static PrizeHouse unreadOn(int day) {
    PrizeHouse p = Scenes.onDay(Scenes.entered(), day);
    p.print(0, 50);
    p.read();
    return p;
  }

  /** Phase 4: book 0 is the winner, 1 on the shortlist, 2 and 3 on the longlist alone, 4 on none. */
  private static PrizeHouse standings() {
    PrizeHouse p = Scenes.longListed(4);
    p.shortList(2);
    p.end();
    return p;
  }

  private static void sales() {
    c.part("terms 2, \"sells as many of its STOCK as are asked for (or all)\"");
    int[] books = {4, 2, 1, 0};
    int[] asked = {1, 5, 20, 90};
    for (int k = 0; k < 4; k++) {
      for (int more = -1; more <= 1; more++) {
        sale(standings(), books[k], asked[k], 1, asked[k] + more);
        sale(standings(), books[k], asked[k], 3, 3 * asked[k] + more);
        sale(standings(), books[k], asked[k], 60, 60 * asked[k] + more);
      }
      sale(standings(), books[k], asked[k], 2, 0);
      sale(standings(), books[k], asked[k], 2, 1);
    }
  }

  private static void sale(PrizeHouse p, int book, int asked, int days, int stock) {
    for (int left = stock; left > 0; left -= 5000) {
      p.print(book, Math.min(5000, left));
    }
    int house = p.ofBook(book, 0);
    int coins = p.ofHouse(house, 0);
    int missed = p.ofBook(book, 4);
    int due = Math.min(stock, asked * days);
    String sale = stock + " in stock, " + asked + " asked in each of " + days + " days: ";
    p.pass(days);
    c.is(sale + "sold", p.ofBook(book, 3), due);
    c.is(sale + "stock", p.ofBook(book, 2), stock - due);
    c.is(sale + "missed", p.ofBook(book, 4) - missed, asked * days - due);
    c.is(sale + "coins", p.ofHouse(house, 0) - coins, due);
  }

  private static int missedBy(PrizeHouse p, int book) {
    int before = p.ofBook(book, 4);
    p.pass(1);
    return p.ofBook(book, 4) - before;
  }

  private static void asked() {
    c.part("terms 2, \"the WINNER of this YEAR, or of the YEAR ahead, 90\"");
    PrizeHouse p = standings();
    p.strip();
    c.is("one that was stripped", missedBy(p, 0), 20);
    c.is("the winner then", missedBy(p, 1), 90);
    p.next();
    c.is("stripped in the year ahead", missedBy(p, 0), 1);
    c.is("the winner of the year ahead", missedBy(p, 1), 90);
    c.is("on the longlist in the year ahead", missedBy(p, 2), 1);
    for (int b = 6; b < 9; b++) {
      Scenes.tell(p, b % 3, b, 100, 10);
      p.enter(b);
    }
    Scenes.readAll(p);
    c.is("ahead of a list", missedBy(p, 6), 1);
    p.longList(3);
    c.is("on the longlist of this year", missedBy(p, 6), 5);
    p.shortList(2);
    c.is("on its shortlist", missedBy(p, 6), 20);
    c.is("on its longlist alone", missedBy(p, 8), 5);
    p.end();
    c.is("the winner of this year", missedBy(p, 6), 90);
    c.is("and that of the year ahead", missedBy(p, 1), 90);
    p.next();
    c.is("the winner two years ahead", missedBy(p, 1), 1);
    c.is("the winner of the year ahead then", missedBy(p, 6), 90);
    PrizeHouse nobody = standings();
    nobody.strip();
    nobody.strip();
    c.is("nobody is the winner", nobody.many(9), -1);
    c.is("stripped, on the shortlist", missedBy(nobody, 1), 20);
    nobody.next();
    c.is("nobody was the winner", missedBy(nobody, 1), 1);
    c.part("terms 2, \"in each DAY each BOOK\"");
    for (int phase = 0; phase < 5; phase++) {
      PrizeHouse late = Scenes.inPhase(phase);
      Scenes.tell(late, 0, 0, 900, 0);
      c.is("told in phase " + phase, missedBy(late, 6), 1);
    }
  }

  public static void main(String[] args) {
    readRefused();
    readers();
    crates();
    pace();
    ends();
    onlyInReading();
    marks();
    print();
    passRefused();
    sales();
    asked();
    c.close();
  }
}
