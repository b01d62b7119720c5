import java.math.BigInteger;
import java.util.ArrayList;
import java.util.List;

/** Promises 25 to 30, sentence by sentence: the cases on both sides of each border that is named. */
public final class EdgeWouldBeTest {
  private static final Class<IndexOutOfBoundsException> INDEX = IndexOutOfBoundsException.class;
  private static final Class<IllegalArgumentException> ARGUMENT = IllegalArgumentException.class;
  private static final Check c = new Check("EdgeWouldBeTest");

  /** Books 0 to 2 of even scores, and five judges: three orders are for 2, two for 1. */
  private static PrizeHouse voted() {
    PrizeHouse p = Scenes.even(5, 3);
    int[] orders = {321, 321, 321, 213, 213};
    for (int j = 0; j < 5; j++) {
      p.vote(j, orders[j]);
    }
    return p;
  }

  private static PrizeHouse noShortList() {
    PrizeHouse p = Scenes.disowned();
    p.longList(3);
    p.shortList(2);
    return p;
  }

  private static void wins() {
    c.part("promise 25, \"if judges is not 0 to 31\"");
    c.range(EdgeWouldBeTest::voted, "judges", 0, 31, ARGUMENT, PrizeHouse::wins);
    c.range(PrizeHouse::new, "judges, of none", 0, 31, ARGUMENT, EdgeWouldBeTest::winsOrNone);
    c.part("promise 25, \"without the ORDERS of these\"");
    for (int set = 0; set < 32; set++) {
      int forLast = 3 - Integer.bitCount(set & 7);
      int forSecond = 2 - Integer.bitCount(set & 24);
      // Without any order, and at two against two, it goes by numbers.
      int due = forLast > forSecond ? 2 : forSecond > 0 ? 1 : 0;
      c.is("wins(" + set + ")", voted().wins(set), due);
    }
    c.is("judges that are not there", Scenes.shortListed(3).wins(24), 0);
    c.part("promise 25, \"in the PHASES 3 and 4\"; \"NONE in others\"");
    for (int phase = 0; phase < 5; phase++) {
      c.is("phase " + phase, Scenes.inPhase(phase).wins(0), phase < 3 ? -1 : 0);
      c.is("all, phase " + phase, Scenes.inPhase(phase).wins(31), phase < 3 ? -1 : 0);
    }
    c.is("in the next year", Scenes.nextYear().wins(0), -1);
    c.part("promise 25, \"(without those that were STRIPPED)\"; \"or if nobody is left\"");
    PrizeHouse p = voted();
    p.end();
    p.strip();
    c.is("without one", p.wins(0), 1);
    c.is("without one and four orders", p.wins(15), 1);
    p.strip();
    c.is("without two", p.wins(0), 0);
    p.strip();
    c.is("nobody is left", p.wins(0), -1);
    c.is("nobody was there", noShortList().wins(0), -1);
  }

  /** So that the range can tell what is taken: NONE is below 0. */
  private static int winsOrNone(PrizeHouse p, int judges) {
    return p.wins(judges) + 1;
  }

  private static int beats(int books, int... orders) {
    PrizeHouse p = Scenes.even(Math.max(3, orders.length), books);
    for (int j = 0; j < orders.length; j++) {
      if (orders[j] != 0) {
        p.vote(j, orders[j]);
      }
    }
    int asked = p.beatsAll();
    p.end();
    c.is("the same in phase 4", p.beatsAll(), asked);
    return asked;
  }

  private static void beatsAll() {
    c.part("promise 26, \"ahead of each other one ... in more ORDERS than behind it\"");
    c.is("one order", beats(3, 312), 2);
    c.is("one order, by the last judge", beats(3, 0, 0, 0, 0, 231), 1);
    c.is("no order", beats(3), -1);
    c.is("one against one", beats(3, 123, 321), -1);
    c.is("two against one", beats(3, 123, 321, 123), 0);
    c.is("two against two", beats(3, 123, 321, 123, 321), -1);
    c.is("three against two", beats(3, 123, 321, 123, 321, 312), 2);
    c.is("a ring", beats(3, 123, 231, 312), -1);
    c.is("never the best, ahead of each", beats(5, 21345, 31245, 41235, 51234), 0);
    c.is("ahead of all but one, even with that", beats(3, 123, 132, 213, 213), -1);
    c.is("behind the first", beats(3, 213, 213, 132), 1);
    c.is("behind the last", beats(3, 312, 312, 123), 2);
    c.part("promise 26, \"(ORDERS of a JUDGE in CONFLICT with one of both do not count ...\"");
    PrizeHouse p = Scenes.even(3, 3);
    p.vote(0, 123);
    p.vote(1, 213);
    c.is("one against one", p.beatsAll(), -1);
    p.conflict(0, 2);
    c.is("with neither of these two", p.beatsAll(), -1);
    p.conflict(0, 1);
    c.is("with the other one", p.beatsAll(), 1);
    PrizeHouse first = Scenes.even(3, 3);
    first.vote(0, 123);
    first.vote(1, 213);
    first.conflict(0, 0);
    c.is("with the first one", first.beatsAll(), 1);
    first.conflict(1, 1);
    c.is("no order for that pair", first.beatsAll(), -1);
    PrizeHouse idle = Scenes.even(3, 3);
    idle.vote(0, 123);
    idle.conflict(1, 0);
    c.is("a judge without an order", idle.beatsAll(), 0);
    c.part("promise 26, \"(STRIPPED ones, too)\"");
    PrizeHouse stripped = Scenes.even(3, 3);
    stripped.vote(0, 123);
    stripped.end();
    stripped.strip();
    c.is("the one that was stripped", stripped.beatsAll(), 0);
    stripped.strip();
    stripped.strip();
    c.is("all were stripped", stripped.beatsAll(), 0);
    c.part("promise 26, \"one alone is the one\"; \"NONE without one\"");
    PrizeHouse alone = alone();
    c.is("one alone", alone.beatsAll(), 0);
    alone.vote(0, 1);
    Scenes.disown(alone, 0);
    c.is("one alone in conflict", alone.beatsAll(), 0);
    c.is("none", noShortList().beatsAll(), -1);
    c.part("promise 26, \"in the PHASES 3 and 4\"");
    for (int phase = 0; phase < 5; phase++) {
      PrizeHouse q = Scenes.inPhase(phase);
      if (phase == 3) {
        q.vote(0, 213);
      }
      c.is("phase " + phase, q.beatsAll(), phase == 3 ? 1 : -1);
    }
    PrizeHouse later = alone();
    later.end();
    c.is("one alone in phase 4", later.beatsAll(), 0);
    later.next();
    c.is("in the next year", later.beatsAll(), -1);
  }

  /** A shortlist of book 0 alone. */
  private static PrizeHouse alone() {
    PrizeHouse p = Scenes.read();
    for (int j = 0; j < 3; j++) {
      for (int author = 1; author < 6; author++) {
        p.conflict(j, author);
      }
    }
    p.longList(3);
    p.shortList(2);
    return p;
  }

  private static void spoiled() {
    c.part("promise 27, \"if there is no such BOOK\"");
    c.refusesIn(() -> Scenes.with(1, 1), "of none", INDEX, p -> p.spoiled(0));
    c.range(() -> Scenes.shortListed(5), "book, of six", 0, 5, INDEX, (p, v) -> p.spoiled(v) + 1);
    c.range(Scenes::full, "book, of sixteen", 0, 15, INDEX, (p, v) -> p.spoiled(v) + 1);
    c.part("promise 27, \"for one on the shortlist\"; \"NONE otherwise\"");
    PrizeHouse p = Scenes.longListed(4);
    p.shortList(2);
    int[] due = {1, 0, -1, -1, -1, -1};
    for (int b = 0; b < 6; b++) {
      c.is("book " + b, p.spoiled(b), due[b]);
    }
    p.end();
    for (int b = 0; b < 6; b++) {
      c.is("book " + b + " in phase 4", p.spoiled(b), due[b]);
    }
    for (int phase = 0; phase < 3; phase++) {
      c.is("phase " + phase, Scenes.inPhase(phase).spoiled(0), -1);
    }
    c.is("in the next year", Scenes.nextYear().spoiled(0), -1);
    c.part("promise 27, \"who would win ... without that one as well\"");
    PrizeHouse three = voted();
    c.is("without the first", three.spoiled(0), 2);
    c.is("without the second", three.spoiled(1), 2);
    c.is("without the winner", three.spoiled(2), 1);
    three.end();
    three.strip();
    c.is("without the stripped one", three.spoiled(2), 1);
    c.is("without two", three.spoiled(1), 0);
    three.strip();
    c.is("one is left", three.spoiled(1), 0);
    c.is("nobody is left", three.spoiled(0), -1);
    three.strip();
    c.is("all were stripped", three.spoiled(2), -1);
    c.is("one alone", alone().spoiled(0), -1);
  }

  /** Reading has begun, of three books of those pages by three judges of that speed. */
  private static PrizeHouse toRead(int speed, int first, int second, int third) {
    PrizeHouse p = Scenes.with(3, 0);
    for (int j = 0; j < 3; j++) {
      p.judge(speed, 5, 0);
    }
    int[] pages = {first, second, third};
    for (int b = 0; b < 3; b++) {
      Scenes.tell(p, b, b, pages[b], 30);
      p.enter(b);
    }
    return p;
  }

  private static int daysOf(int speed, int first, int second, int third) {
    PrizeHouse p = toRead(speed, first, second, third);
    p.read();
    return p.readIn();
  }

  private static void readIn() {
    c.part("promise 28, \"in how many DAYS all CRATES would be read\"");
    c.is("599 pages", daysOf(200, 200, 200, 199), 3);
    c.is("600 pages", daysOf(200, 200, 200, 200), 3);
    c.is("601 pages", daysOf(200, 200, 200, 201), 4);
    c.is("300 pages", daysOf(100, 100, 100, 100), 3);
    c.is("595 pages, 95 on the 6th day", daysOf(100, 200, 200, 195), 6);
    c.is("596 pages", daysOf(100, 200, 200, 196), 7);
    c.is("500 pages at 20", daysOf(20, 200, 200, 100), 25);
    c.is("515 pages at 20", daysOf(20, 200, 200, 115), 26);
    c.is("516 pages at 20", daysOf(20, 200, 200, 116), 27);
    c.part("promise 28, \"(0, if they are; ...)\"; \"NONE in others\"");
    PrizeHouse p = toRead(100, 200, 200, 196);
    c.is("ahead of reading", p.readIn(), -1);
    p.read();
    for (int due = 7; due > 0; due--) {
      c.is("readIn()", p.readIn(), due);
      p.pass(1);
    }
    c.is("all are read", p.readIn(), 0);
    p.pass(60);
    c.is("and stay so", p.readIn(), 0);
    p.longList(3);
    c.is("phase 2", p.readIn(), -1);
    for (int phase = 0; phase < 5; phase++) {
      c.is("phase " + phase, Scenes.inPhase(phase).readIn(), phase == 1 ? 0 : -1);
    }
    c.is("in the next year", Scenes.nextYear().readIn(), -1);
    PrizeHouse empty = Scenes.entered();
    for (int j = 0; j < 3; j++) {
      Scenes.disown(empty, j);
    }
    empty.read();
    c.is("crates without a book", empty.readIn(), 0);
    c.part("promise 28, \"DAY may be above 9999 by that\"");
    PrizeHouse late = Scenes.onDay(toRead(20, 800, 800, 800), 9999);
    late.read();
    c.is("198 days from day 9999", late.readIn(), 198);
    PrizeHouse most = longest();
    most.read();
    // 25 days of 20 pages, 34 of 15, then 939 of 10.
    c.is("10400 pages at 20", most.readIn(), 25 + 34 + 939);
  }

  /** Thirteen books of 800 pages, all that three judges can come to in a year. */
  private static PrizeHouse longest() {
    PrizeHouse p = Scenes.with(5, 0);
    for (int j = 0; j < 3; j++) {
      p.judge(20, 5, 0);
    }
    for (int b = 0; b < 13; b++) {
      Scenes.tell(p, b % 5, b % 10, 800, b);
    }
    for (int b = 0; b < 10; b++) {
      p.enter(b);
    }
    for (int j = 0; j < 3; j++) {
      p.callIn(j, 10 + j);
    }
    return p;
  }

  private static void print(PrizeHouse p, int book, int copies) {
    for (int left = copies; left > 0; left -= 5000) {
      p.print(book, Math.min(5000, left));
    }
  }

  private static void wouldMiss() {
    c.part("promise 29, \"if days is not 1 to 60\"");
    c.range(Scenes::ended, "days", 1, 60, ARGUMENT, PrizeHouse::wouldMiss);
    c.range(PrizeHouse::new, "days, without books", 1, 60, ARGUMENT, PrizeHouse::wouldMiss);
    c.part("promise 29, \"how many would be MISSED in them\"");
    int[] asked = {90, 20, 5, 5, 1, 1};
    for (int days : new int[] {1, 2, 60}) {
      for (int book : new int[] {0, 1, 2, 4}) {
        int rest = days * (90 + 20 + 5 + 5 + 1 + 1 - asked[book]);
        for (int more = -1; more <= 1; more++) {
          PrizeHouse p = Scenes.longListed(4);
          p.shortList(2);
          p.end();
          print(p, book, asked[book] * days + more);
          int due = rest + (more < 0 ? 1 : 0);
          int before = p.many(13);
          c.is(days + " days, book " + book + ", " + more + " more than asked",
              p.wouldMiss(days), due);
          c.is("nothing is missed by asking", p.many(13), before);
          p.pass(days);
          c.is("it comes so", p.many(13) - before, due);
        }
      }
    }
    c.is("without books", new PrizeHouse().wouldMiss(60), 0);
    PrizeHouse all = Scenes.full();
    c.is("sixteen without stock", all.wouldMiss(60), 16 * 60);
    for (int b = 0; b < 16; b++) {
      all.print(b, 60);
    }
    c.is("sixteen with enough", all.wouldMiss(60), 0);
    PrizeHouse two = Scenes.nextYear();
    c.is("the winner of the year ahead", two.wouldMiss(1), 90 + 5);
    c.part("promise 29, \"(DAY may be above 9999 by that)\"");
    PrizeHouse late = Scenes.onDay(Scenes.told(), 9999);
    c.is("60 days from 9999", late.wouldMiss(60), 360);
    c.is("1 day from 9999", late.wouldMiss(1), 6);
  }

  /** All values in the document's order, as numbers without a bound that are cut at the end. */
  private static long sumOf(PrizeHouse p) {
    List<Integer> values = new ArrayList<>();
    for (int what = 0; what <= 14; what++) {
      values.add(p.many(what));
    }
    int houses = values.get(3);
    int books = values.get(4);
    int judges = values.get(5);
    for (int h = 0; h < houses; h++) {
      for (int what = 0; what <= 4; what++) {
        values.add(p.ofHouse(h, what));
      }
    }
    for (int b = 0; b < books; b++) {
      for (int what = 0; what <= 10; what++) {
        values.add(p.ofBook(b, what));
      }
      values.add(p.spoiled(b));
    }
    for (int j = 0; j < judges; j++) {
      for (int what = 0; what <= 7; what++) {
        values.add(p.ofJudge(j, what));
      }
      for (int b = 0; b < books; b++) {
        values.add(p.mark(j, b));
      }
    }
    values.addAll(List.of(p.wins(0), p.wins(1), p.beatsAll(), p.readIn(), p.wouldMiss(7)));
    BigInteger d = BigInteger.valueOf(9117);
    for (int v : values) {
      d = d.multiply(BigInteger.valueOf(31)).add(BigInteger.valueOf(v));
    }
    return d.longValue();
  }

  private static void digest() {
    c.part("promise 30, \"which wraps around as a 64-bit integer\"");
    PrizeHouse none = new PrizeHouse();
    c.is("of a new one", none.digest(), sumOf(none));
    PrizeHouse house = Scenes.with(1, 0);
    c.is("of a house", house.digest(), sumOf(house));
    for (int phase = 0; phase < 5; phase++) {
      PrizeHouse p = Scenes.inPhase(phase);
      c.is("in phase " + phase, p.digest(), sumOf(p));
      PrizeHouse same = Scenes.inPhase(phase);
      c.is("of the same calls", same.digest(), p.digest());
    }
    PrizeHouse votes = voted();
    c.is("with orders", votes.digest(), sumOf(votes));
    PrizeHouse first = Scenes.even(3, 3);
    first.vote(0, 321);
    c.is("wins(0)", first.wins(0), 2);
    c.is("wins(1) is another one", first.wins(1), 0);
    c.is("wins(2) is not", first.wins(2), 2);
    c.is("with the order of judge 0", first.digest(), sumOf(first));
    PrizeHouse full = Scenes.fullEntered();
    c.is("of a full one", full.digest(), sumOf(full));
    PrizeHouse reader = Scenes.fullEntered();
    reader.read();
    reader.pass(3);
    c.is("of a full one that reads", reader.digest(), sumOf(reader));
    PrizeHouse late = Scenes.onDay(Scenes.told(), 9999);
    c.is("on the last day", late.digest(), sumOf(late));
  }

  private static void nothingIsChanged() {
    c.part("\"what would be (nothing is changed)\"");
    for (int phase = 0; phase < 5; phase++) {
      int then = phase;
      Check.Scene scene = () -> Scenes.inPhase(then);
      for (int set = 0; set < 8; set++) {
        int judges = set;
        c.leavesIn(scene, "wins in phase " + phase, p -> p.wins(judges));
      }
      for (int book = 0; book < 6; book++) {
        int without = book;
        c.leavesIn(scene, "spoiled in phase " + phase, p -> p.spoiled(without));
      }
      c.leavesIn(scene, "beatsAll in phase " + phase, PrizeHouse::beatsAll);
      c.leavesIn(scene, "readIn in phase " + phase, PrizeHouse::readIn);
      c.leavesIn(scene, "wouldMiss in phase " + phase, p -> p.wouldMiss(60));
      c.leavesIn(scene, "digest in phase " + phase, PrizeHouse::digest);
    }
    c.leavesIn(Scenes::reading, "readIn as crates are read", PrizeHouse::readIn);
    c.leavesIn(EdgeWouldBeTest::voted, "wins with orders", p -> p.wins(7));
    c.leavesIn(EdgeWouldBeTest::voted, "spoiled with orders", p -> p.spoiled(2));
    c.leavesIn(EdgeWouldBeTest::voted, "beatsAll with orders", PrizeHouse::beatsAll);
  }

  public static void main(String[] args) {
    wins();
    beatsAll();
    spoiled();
    readIn();
    wouldMiss();
    digest();
    nothingIsChanged();
    c.close();
  }
}
