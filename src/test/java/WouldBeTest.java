/** Promises 25 to 30: what would be. */
public final class WouldBeTest {
  private static final Class<IndexOutOfBoundsException> INDEX = IndexOutOfBoundsException.class;
  private static final Class<IllegalArgumentException> ARGUMENT = IllegalArgumentException.class;
  private static final Check c = new Check("WouldBeTest");

  /** Books 0 to 2 on the shortlist by falling scores; judges 0 to 2 with these orders. */
  private static PrizeHouse voted(int first, int second, int third) {
    PrizeHouse p = Scenes.shortListed(3);
    p.vote(0, first);
    p.vote(1, second);
    p.vote(2, third);
    return p;
  }

  private static void wins() {
    c.part("promise 25");
    PrizeHouse p = voted(321, 321, 213);
    int[] due = {2, 1, 1, 1, 2, 2, 2, 0};
    // Without one of the first two it is one order against one, and the smaller score, book 2, is out.
    for (int set = 0; set < 8; set++) {
      c.is("wins(" + set + ")", p.wins(set), due[set]);
      c.is("judges that are none, " + (set + 24), p.wins(set + 24), due[set]);
    }
    c.is("the orders stay", p.ofJudge(0, 6), 1);
    p.end();
    c.is("wins(1) in phase 4", p.wins(1), 1);
    c.is("the winner stays", p.many(9), 2);
    p.strip();
    c.is("without one that was stripped", p.wins(0), 1);
    p.strip();
    p.strip();
    c.is("nobody is left", p.wins(0), -1);
    for (int phase = 0; phase < 3; phase++) {
      c.is("wins(0) in phase " + phase, Scenes.inPhase(phase).wins(0), -1);
    }
    p.next();
    c.is("wins(0) in the next year", p.wins(0), -1);
    c.refuses(p, "judges -1", ARGUMENT, () -> p.wins(-1));
    c.refuses(p, "judges 32", ARGUMENT, () -> p.wins(32));
  }

  private static void beatsAll() {
    c.part("promise 26");
    c.is("a ring", voted(123, 231, 312).beatsAll(), -1);
    c.is("without orders", Scenes.shortListed(3).beatsAll(), -1);
    PrizeHouse p = voted(132, 213, 312);
    c.is("ahead of each other one", p.beatsAll(), 0);
    p.end();
    c.is("the same in phase 4", p.beatsAll(), 0);
    p.strip();
    c.is("one that was stripped, too", p.beatsAll(), 0);
    p.next();
    c.is("in the next year", p.beatsAll(), -1);
    c.is("the last one", voted(321, 312, 123).beatsAll(), 2);
    PrizeHouse even = Scenes.shortListed(2);
    even.vote(0, 12);
    even.vote(1, 21);
    c.is("as many ahead as behind", even.beatsAll(), -1);
    even.conflict(0, 1);
    c.is("in conflict with the other one", even.beatsAll(), 1);
    even.conflict(1, 1);
    c.is("all in conflict", even.beatsAll(), -1);
    PrizeHouse third = voted(132, 132, 213);
    third.conflict(0, 2);
    c.is("conflicts count by pairs: 0 and 1 are ahead 2 to 1", third.beatsAll(), 0);
    PrizeHouse stripped = voted(213, 213, 132);
    stripped.end();
    stripped.strip();
    c.is("ahead of one that was stripped, too", stripped.beatsAll(), 1);
    for (int phase = 0; phase < 3; phase++) {
      c.is("in phase " + phase, Scenes.inPhase(phase).beatsAll(), -1);
    }
    PrizeHouse alone = Scenes.told();
    for (int b = 0; b < 3; b++) {
      alone.enter(b);
    }
    alone.read();
    alone.pass(2);
    for (int j = 0; j < 3; j++) {
      alone.conflict(j, 0);
      alone.conflict(j, 2);
    }
    alone.longList(3);
    c.is("in phase 2", alone.beatsAll(), -1);
    c.is("one", alone.shortList(2), 1);
    c.is("one alone is the one", alone.beatsAll(), 1);
    c.is("an order of one", alone.vote(0, 1), 1);
    c.is("it wins", alone.wins(0), 1);
    c.is("without it", alone.spoiled(1), -1);
  }

  private static void spoiled() {
    c.part("promise 27");
    PrizeHouse p = voted(132, 213, 321);
    c.is("as it is, 2 is out first", p.wins(0), 1);
    c.is("spoiled(0)", p.spoiled(0), 2);
    c.is("spoiled(1)", p.spoiled(1), 0);
    c.is("spoiled(2)", p.spoiled(2), 1);
    c.is("not on the shortlist", p.spoiled(3), -1);
    c.refuses(p, "book -1", INDEX, () -> p.spoiled(-1));
    c.refuses(p, "book 6", INDEX, () -> p.spoiled(6));
    p.end();
    p.strip();
    c.is("without both", p.spoiled(0), 2);
    c.is("of one that was stripped", p.spoiled(1), 0);
    p.strip();
    c.is("nobody is left", p.spoiled(2), -1);
    c.is("one is left", p.spoiled(0), 2);
    for (int phase = 0; phase < 3; phase++) {
      c.is("in phase " + phase, Scenes.inPhase(phase).spoiled(0), -1);
    }
    p.next();
    c.is("in the next year", p.spoiled(0), -1);
  }

  private static void readIn() {
    c.part("promise 28");
    for (int phase = 0; phase < 5; phase++) {
      c.is("in phase " + phase, Scenes.inPhase(phase).readIn(), phase == 1 ? 0 : -1);
    }
    PrizeHouse p = Scenes.reading();
    for (int due = 3; due >= 0; due--) {
      c.is("readIn()", p.readIn(), due);
      p.pass(1);
    }
    PrizeHouse slow = new PrizeHouse();
    slow.house();
    slow.house();
    slow.judge(200, 5, 0);
    slow.judge(20, 5, 0);
    slow.judge(21, 5, 0);
    for (int b = 0; b < 3; b++) {
      slow.book(b / 2, b, 0, 800, 1, 1);
      slow.enter(b);
    }
    for (int k = 0; k < 166; k++) {
      slow.pass(60);
    }
    slow.read();
    // 25 days of 20 pages, 34 of 15, 139 of 10: 500, 1010 and 2400 pages.
    c.is("the slowest one, beyond day 9999", slow.readIn(), 198);
    c.is("nothing is changed", slow.ofJudge(1, 5), 0);
    slow.pass(30);
    c.is("30 days later", slow.readIn(), 168);
    PrizeHouse empty = Scenes.entered();
    for (int author = 0; author < 6; author++) {
      for (int j = 0; j < 3; j++) {
        empty.conflict(j, author);
      }
    }
    c.is("crates without books", empty.read(), 0);
    c.is("are read", empty.readIn(), 0);
  }

  private static void wouldMiss() {
    c.part("promise 29");
    PrizeHouse p = Scenes.longListed(4);
    c.refuses(p, "days 0", ARGUMENT, () -> p.wouldMiss(0));
    c.refuses(p, "days 61", ARGUMENT, () -> p.wouldMiss(61));
    p.print(0, 12);
    p.print(4, 2);
    c.is("days 1", p.wouldMiss(1), 15 + 1);
    c.is("days 3", p.wouldMiss(3), 3 + 45 + 1 + 3);
    c.is("days 60", p.wouldMiss(60), 288 + 900 + 58 + 60);
    c.is("nothing is sold", p.ofBook(0, 2), 12);
    p.shortList(2);
    c.is("with a shortlist", p.wouldMiss(3), 48 + 60 + 30 + 1 + 3);
    p.end();
    c.is("with a winner", p.wouldMiss(3), 258 + 60 + 30 + 1 + 3);
    p.next();
    c.is("in the next year", p.wouldMiss(3), 258 + 3 * 4 + 1);
    PrizeHouse late = Scenes.told();
    for (int k = 0; k < 166; k++) {
      late.pass(60);
    }
    c.is("beyond day 9999", late.wouldMiss(60), 360);
    c.is("without books", new PrizeHouse().wouldMiss(60), 0);
  }

  /** The sum as the document tells it, by the other calls. */
  private static long digestOf(PrizeHouse p) {
    int books = p.many(4);
    int judges = p.many(5);
    long d = 9117;
    for (int what = 0; what <= 14; what++) {
      d = d * 31 + p.many(what);
    }
    for (int h = 0; h < p.many(3); h++) {
      for (int what = 0; what <= 4; what++) {
        d = d * 31 + p.ofHouse(h, what);
      }
    }
    for (int b = 0; b < books; b++) {
      for (int what = 0; what <= 10; what++) {
        d = d * 31 + p.ofBook(b, what);
      }
      d = d * 31 + p.spoiled(b);
    }
    for (int j = 0; j < judges; j++) {
      for (int what = 0; what <= 7; what++) {
        d = d * 31 + p.ofJudge(j, what);
      }
      for (int b = 0; b < books; b++) {
        d = d * 31 + p.mark(j, b);
      }
    }
    int[] last = {p.wins(0), p.wins(1), p.beatsAll(), p.readIn(), p.wouldMiss(7)};
    for (int v : last) {
      d = d * 31 + v;
    }
    return d;
  }

  /** No row is free: five houses, sixteen books and five judges go through the steps of a year. */
  private static PrizeHouse full(int steps) {
    PrizeHouse p = new PrizeHouse();
    for (int k = 0; k < 5; k++) {
      p.house();
      p.judge(200 - k, k, k);
    }
    for (int b = 0; b < 16; b++) {
      p.book(b % 5, b % 10, b % 3, 100 + b, 2 * b, b % 10);
    }
    if (steps > 0) {
      for (int b = 0; b < 10; b++) {
        p.enter(b);
      }
      for (int j = 0; j < 5; j++) {
        p.callIn(j, 11 + j);
      }
    }
    if (steps > 1) {
      p.read();
    }
    if (steps > 2) {
      p.pass(20);
      c.is("longList", p.longList(8), 8);
      p.points(4, 15, 12);
    }
    if (steps > 3) {
      c.is("shortList", p.shortList(5), 5);
      for (int j = 0; j < 5; j++) {
        p.vote(j, 54321);
      }
      c.is("the last book wins", p.end(), 15);
    }
    if (steps > 4) {
      p.strip();
      p.next();
    }
    return p;
  }

  private static void digest() {
    c.part("promise 30");
    c.is("a new object", new PrizeHouse().digest(), -7699694265744296525L);
    for (int phase = 0; phase < 5; phase++) {
      PrizeHouse p = Scenes.inPhase(phase);
      c.is("in phase " + phase, p.digest(), digestOf(p));
      c.is("asked again", p.digest(), digestOf(p));
    }
    PrizeHouse p = voted(321, 123, 321);
    c.is("wins(0)", p.wins(0), 2);
    c.is("wins(1) is another one", p.wins(1), 0);
    c.is("with orders", p.digest(), digestOf(p));
    // Each is a new object: an object is good for 512 calls, and a sum of a full one takes 360.
    for (int steps = 0; steps < 6; steps++) {
      PrizeHouse full = full(steps);
      c.is("full, " + steps + " steps", full.digest(), digestOf(full));
    }
    PrizeHouse reading = Scenes.reading();
    c.is("while crates are read", reading.digest(), digestOf(reading));
  }

  public static void main(String[] args) {
    wins();
    beatsAll();
    spoiled();
    readIn();
    wouldMiss();
    digest();
    c.close();
  }
}
