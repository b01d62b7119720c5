/** Promises 12 to 14, sentence by sentence: the cases on both sides of each border that is named. */
public final class EdgeListsTest {
  private static final Class<IndexOutOfBoundsException> INDEX = IndexOutOfBoundsException.class;
  private static final Class<IllegalArgumentException> ARGUMENT = IllegalArgumentException.class;
  private static final Class<IllegalStateException> STATE = IllegalStateException.class;
  private static final Check c = new Check("EdgeListsTest");

  private static void longListRefused() {
    c.part("promise 12, \"if many is not 3 to 8\"");
    c.range(Scenes::read, "many", 3, 8, ARGUMENT, PrizeHouse::longList);
    c.part("promise 12, \"if the PHASE is not 1\"");
    for (int phase : new int[] {0, 2, 3, 4}) {
      c.refusesIn(() -> Scenes.inPhase(phase), "phase " + phase, STATE, p -> p.longList(3));
      c.refusesIn(() -> Scenes.inPhase(phase), "many 2, phase " + phase, ARGUMENT,
          p -> p.longList(2));
      c.refusesIn(() -> Scenes.inPhase(phase), "many 9, phase " + phase, ARGUMENT,
          p -> p.longList(9));
    }
    c.part("promise 12, \"or a CRATE is not read\"");
    for (int slow = 0; slow < 3; slow++) {
      int judge = slow;
      c.refusesIn(() -> onePageLeft(judge, 15), "one page, judge " + slow, STATE,
          p -> p.longList(3));
      c.takesIn(() -> onePageLeft(judge, 16), "no page, judge " + slow, p -> p.longList(3));
    }
    c.refusesIn(Scenes::reading, "no page is read", STATE, p -> p.longList(8));
    c.refusesIn(Scenes::reading, "many 2, not read", ARGUMENT, p -> p.longList(2));
    c.is("crates without a book are read", disownedAhead().longList(3), 0);
  }

  /** As day 15 is over, just the crate of that judge has a page that is not read. */
  private static PrizeHouse onePageLeft(int slow, int day) {
    PrizeHouse p = Scenes.with(3, 0);
    for (int j = 0; j < 3; j++) {
      p.judge(j == slow ? 20 : 200, 5, 0);
    }
    for (int b = 0; b < 3; b++) {
      Scenes.tell(p, b, b, b == 1 ? 101 : 100, 30);
      p.enter(b);
    }
    p.read();
    return Scenes.onDay(p, day);
  }

  private static PrizeHouse disownedAhead() {
    PrizeHouse p = Scenes.entered();
    for (int j = 0; j < 3; j++) {
      Scenes.disown(p, j);
    }
    p.read();
    return p;
  }

  private static void longListSizes() {
    c.part("terms 3, \"until there are as many as told (3 to 8), or no more\"");
    for (int many = 3; many <= 8; many++) {
      PrizeHouse full = Scenes.fullEntered();
      Scenes.readAll(full);
      c.is("of fifteen, told " + many, full.longList(many), many);
      c.is("the set", Integer.bitCount(full.many(7)), many);
      c.is("phase", full.many(1), 2);
      PrizeHouse six = Scenes.read();
      c.is("of six, told " + many, six.longList(many), Math.min(6, many));
      c.is("the best ones", six.many(7), (1 << Math.min(6, many)) - 1);
    }
    PrizeHouse none = Scenes.disowned();
    c.is("of none", none.longList(3), 0);
    c.is("phase", none.many(1), 2);
    for (int left = 1; left < 4; left++) {
      PrizeHouse few = Scenes.read();
      for (int j = 0; j < 3; j++) {
        for (int author = left; author < 6; author++) {
          few.conflict(j, author);
        }
      }
      c.is("of " + left + ", told 3", few.longList(3), left);
      c.is("the set", few.many(7), (1 << left) - 1);
    }
  }

  /** Four judges; book 0 is read by 0 to 2. Those of the set come into conflict with its author. */
  private static int standing(int against) {
    PrizeHouse p = Scenes.with(3, 4);
    for (int b = 0; b < 3; b++) {
      Scenes.tell(p, b, b, 100, 30);
      p.enter(b);
    }
    Scenes.readAll(p);
    for (int j = 0; j < 4; j++) {
      if ((against >> j & 1) == 1) {
        p.conflict(j, 0);
      }
    }
    p.longList(3);
    return p.ofBook(0, 7);
  }

  private static void marksEnough() {
    c.part("terms 3, \"two MARKS or more by JUDGES not in CONFLICT\"");
    c.is("three marks", standing(0), 1);
    c.is("three, one without a mark in conflict", standing(8), 1);
    c.is("two marks", standing(1), 1);
    c.is("two marks", standing(2 + 8), 1);
    c.is("one mark, two judges are not in conflict", standing(1 + 2), 0);
    c.is("none, one judge is not in conflict", standing(1 + 2 + 4), 0);
    c.is("none, none", standing(15), 0);
    c.part("terms 3, \"one is enough, if of all JUDGES just one is not in CONFLICT by then\"");
    c.is("one mark, that of judge 2", standing(1 + 2 + 8), 1);
    c.is("one mark, that of judge 0", standing(2 + 4 + 8), 1);
    int[] due = {1, 1, 1, 0};
    for (int against = 0; against < 4; against++) {
      PrizeHouse ahead = Scenes.entered();
      PrizeHouse late = Scenes.longListed(8);
      for (int j = 0; j < against; j++) {
        ahead.conflict(j, 0);
        late.conflict(j, 0);
      }
      Scenes.readAll(ahead);
      ahead.longList(8);
      c.is("of three, ahead of reading, in conflict " + against, ahead.ofBook(0, 7), due[against]);
      c.is("what is told later takes none off", late.ofBook(0, 7), 1);
    }
    c.part("terms 3, \"of ENTERED BOOKS\"");
    PrizeHouse p = Scenes.told();
    Scenes.enterAll(p, 1, 3, 5);
    Scenes.readAll(p);
    p.longList(8);
    c.is("the set", p.many(7), 2 + 8 + 32);
  }

  /** The longlist of so many, of books of these houses and merits, all entered or called in. */
  private static int setOf(int many, int[] houses, int[] merits) {
    PrizeHouse p = Scenes.with(5, 3);
    for (int b = 0; b < houses.length; b++) {
      Scenes.tell(p, houses[b], b, 100, merits[b]);
    }
    int caller = 0;
    for (int b = 0; b < houses.length; b++) {
      if (p.enter(b) < 0) {
        p.callIn(caller, b);
        caller++;
      }
    }
    Scenes.readAll(p);
    p.longList(many);
    return p.many(7);
  }

  private static void longListOrder() {
    c.part("terms 3, \"by SCORES (the greatest first), of the same by the smaller number\"");
    int[] apart = {0, 1, 2, 3};
    c.is("all the same", setOf(3, apart, new int[] {30, 30, 30, 30}), 1 + 2 + 4);
    c.is("the last is one better", setOf(3, apart, new int[] {30, 30, 30, 31}), 1 + 2 + 8);
    c.is("the first is one worse", setOf(3, apart, new int[] {29, 30, 30, 30}), 2 + 4 + 8);
    c.is("the second is one worse", setOf(3, apart, new int[] {30, 29, 30, 30}), 1 + 4 + 8);
    c.is("rising", setOf(3, apart, new int[] {1, 2, 3, 4}), 2 + 4 + 8);
    c.part("terms 3, \"if not 2 of its HOUSE are on it already\"");
    int[] two = {0, 0, 1, 1};
    c.is("two of each", setOf(8, two, new int[] {40, 30, 20, 10}), 15);
    int[] three = {0, 0, 0, 1, 1};
    c.is("the third is left out", setOf(3, three, new int[] {50, 40, 30, 20, 10}), 1 + 2 + 8);
    c.is("the next ones come up", setOf(4, three, new int[] {50, 40, 30, 20, 10}), 27);
    c.is("no more then", setOf(8, three, new int[] {50, 40, 30, 20, 10}), 27);
    c.is("the worst of the house is left out", setOf(8, three, new int[] {1, 40, 30, 20, 10}), 30);
    int[] five = {2, 2, 2, 2, 2};
    c.is("one house alone", setOf(8, five, new int[] {1, 5, 2, 4, 3}), 2 + 8);
  }

  private static void pointsOfNone() {
    c.part("promise 13, \"if there is no such JUDGE\"");
    c.range(() -> Scenes.longListed(4), "judge, of three", 0, 2, INDEX, (p, v) -> p.points(v, 0, 1));
    c.range(() -> Scenes.evenLong(5, 3), "judge, of five", 0, 4, INDEX, (p, v) -> p.points(v, 0, 1));
    c.part("promise 13, \"or BOOK on the longlist of this YEAR in PHASE 2\"");
    c.range(() -> Scenes.longListed(4), "book, four of six listed", 0, 3, INDEX,
        (p, v) -> p.points(0, v, 1));
    c.refusesIn(() -> Scenes.longListed(8), "book 6 of six", INDEX, p -> p.points(0, 6, 1));
    c.refusesIn(EdgeListsTest::noLongList, "of an empty longlist", INDEX, p -> p.points(0, 0, 0));
    for (int phase : new int[] {0, 1, 3, 4}) {
      c.refusesIn(() -> Scenes.inPhase(phase), "phase " + phase, INDEX, p -> p.points(0, 0, 1));
      c.refusesIn(() -> Scenes.inPhase(phase), "points 13, phase " + phase, INDEX,
          p -> p.points(0, 0, 13));
    }
    c.refusesIn(EdgeListsTest::secondLongList, "on that of the year ahead", INDEX,
        p -> p.points(0, 0, 1));
    c.takesIn(EdgeListsTest::secondLongList, "on that of this year", p -> p.points(0, 3, 1));
  }

  private static PrizeHouse noLongList() {
    PrizeHouse p = Scenes.disowned();
    p.longList(3);
    return p;
  }

  /** Year 1: books 3 to 5 are on the longlist, books 0 to 2 were on that of year 0. */
  private static PrizeHouse secondLongList() {
    PrizeHouse p = Scenes.told();
    Scenes.enterAll(p, 0, 1, 2);
    Scenes.finishYear(p);
    Scenes.enterAll(p, 3, 4, 5);
    Scenes.readAll(p);
    p.longList(8);
    return p;
  }

  private static PrizeHouse given(int first, int second, int third) {
    PrizeHouse p = Scenes.longListed(4);
    p.points(0, 0, first);
    p.points(0, 1, second);
    p.points(0, 2, third);
    return p;
  }

  /** As given, then judge 0 comes into conflict with the author of book 0. */
  private static PrizeHouse tornBy(int first, int second, int third) {
    PrizeHouse p = given(first, second, third);
    p.conflict(0, 0);
    return p;
  }

  private static void points() {
    c.part("promise 13, \"if points is not 0 to 12\"");
    c.range(() -> Scenes.longListed(4), "points", 0, 12, ARGUMENT, (p, v) -> p.points(0, 0, v));
    c.part("promise 13, \"how many of 12 the JUDGE has left\"");
    PrizeHouse p = Scenes.longListed(4);
    for (int points = 0; points <= 12; points++) {
      c.is("points " + points, p.points(1, 0, points), 12 - points);
    }
    c.is("back to none", p.points(1, 0, 0), 12);
    c.part("promise 13, \"or it would be more than 12 in all\"");
    c.is("12 by three", given(3, 4, 5).ofJudge(0, 7), 0);
    c.is("none for one more", given(3, 4, 5).points(0, 3, 0), 0);
    c.refusesIn(() -> given(3, 4, 5), "one for one more", STATE, q -> q.points(0, 3, 1));
    c.refusesIn(() -> given(3, 4, 5), "one more for one of them", STATE, q -> q.points(0, 2, 6));
    c.refusesIn(() -> given(3, 4, 5), "12 for one of them", STATE, q -> q.points(0, 0, 12));
    c.is("the same again", given(3, 4, 5).points(0, 2, 5), 0);
    c.is("one fewer", given(3, 4, 5).points(0, 2, 4), 1);
    c.is("the last one", given(3, 4, 4).points(0, 3, 1), 0);
    c.refusesIn(() -> given(3, 4, 4), "the 13th", STATE, q -> q.points(0, 3, 2));
    c.is("12 of another judge", given(3, 4, 5).points(1, 0, 12), 0);
    c.part("promise 13, \"(those that do not count, too)\"");
    c.is("used up", tornBy(5, 0, 0).ofJudge(0, 7), 7);
    c.is("what is left", tornBy(5, 0, 0).points(0, 1, 7), 0);
    c.refusesIn(() -> tornBy(5, 0, 0), "one more", STATE, q -> q.points(0, 1, 8));
    c.part("terms 3, \"what was told ahead of a CONFLICT does not count\"");
    c.is("ahead of it", given(5, 4, 0).ofBook(0, 10), 5);
    c.is("behind it", tornBy(5, 4, 0).ofBook(0, 10), 0);
    c.is("of another author", tornBy(5, 4, 0).ofBook(1, 10), 4);
    c.part("promise 13, \"if they are in CONFLICT\"");
    c.refusesIn(() -> tornBy(5, 0, 0), "fewer", STATE, q -> q.points(0, 0, 4));
    c.refusesIn(() -> tornBy(5, 0, 0), "none", STATE, q -> q.points(0, 0, 0));
    c.refusesIn(() -> tornBy(0, 0, 0), "none of none", STATE, q -> q.points(0, 0, 0));
    c.takesIn(() -> tornBy(0, 0, 0), "of another judge", q -> q.points(1, 0, 1));
    c.part("promise 13, the exception that is named first");
    c.refusesIn(() -> Scenes.longListed(4), "judge, points", INDEX, q -> q.points(3, 0, 13));
    c.refusesIn(() -> Scenes.longListed(4), "book, points", INDEX, q -> q.points(0, 4, -1));
    c.refusesIn(() -> tornBy(0, 0, 0), "points, conflict", ARGUMENT, q -> q.points(0, 0, 13));
    c.refusesIn(() -> given(3, 4, 5), "points, in all", ARGUMENT, q -> q.points(0, 3, 13));
    c.refusesIn(() -> given(3, 4, 5), "book, in all", INDEX, q -> q.points(0, 4, 1));
  }

  private static void shortListRefused() {
    c.part("promise 14, \"if many is not 2 to 5\"");
    c.range(() -> Scenes.longListed(8), "many", 2, 5, ARGUMENT, PrizeHouse::shortList);
    c.part("promise 14, \"if the PHASE is not 2\"");
    for (int phase : new int[] {0, 1, 3, 4}) {
      c.refusesIn(() -> Scenes.inPhase(phase), "phase " + phase, STATE, p -> p.shortList(2));
      c.refusesIn(() -> Scenes.inPhase(phase), "many 1, phase " + phase, ARGUMENT,
          p -> p.shortList(1));
      c.refusesIn(() -> Scenes.inPhase(phase), "many 6, phase " + phase, ARGUMENT,
          p -> p.shortList(6));
    }
    c.part("terms 3, \"as many as told (2 to 5), or all of the longlist, if that is less\"");
    for (int many = 2; many <= 5; many++) {
      for (int all = 3; all <= 6; all++) {
        PrizeHouse p = Scenes.longListed(all);
        c.is("told " + many + " of " + all, p.shortList(many), Math.min(many, all));
        c.is("the best ones", p.many(8), (1 << Math.min(many, all)) - 1);
        c.is("phase", p.many(1), 3);
        c.is("the longlist stays", p.many(7), (1 << all) - 1);
      }
    }
    PrizeHouse none = noLongList();
    c.is("of none", none.shortList(2), 0);
    c.is("phase", none.many(1), 3);
    PrizeHouse one = Scenes.read();
    for (int author = 1; author < 6; author++) {
      for (int j = 0; j < 3; j++) {
        one.conflict(j, author);
      }
    }
    one.longList(3);
    c.is("of one", one.shortList(2), 1);
    c.is("the set", one.many(8), 1);
  }

  /** The shortlist of two, of four books of even scores, by triples of judge, book and points. */
  private static int bestTwo(int... given) {
    PrizeHouse p = Scenes.evenLong(3, 4);
    for (int k = 0; k < given.length; k += 3) {
      p.points(given[k], given[k + 1], given[k + 2]);
    }
    p.shortList(2);
    return p.many(8);
  }

  private static void shortListOrder() {
    c.part("terms 3, \"by sums of POINTS\"");
    c.is("one point", bestTwo(0, 3, 1), 8 + 1);
    c.is("12 against 11 by two", bestTwo(0, 3, 12, 1, 1, 6, 2, 1, 5, 1, 2, 6), 8 + 2);
    c.is("the sum, not the most of one", bestTwo(0, 3, 7, 1, 2, 4, 2, 2, 4, 0, 1, 5), 8 + 4);
    c.part("terms 3, \"then by how many JUDGES gave some that count\"");
    c.is("two against one", bestTwo(0, 0, 2, 1, 1, 2, 0, 3, 1, 1, 3, 1), 8 + 1);
    c.is("three against two", bestTwo(0, 0, 2, 1, 0, 1, 0, 3, 1, 1, 3, 1, 2, 3, 1, 0, 1, 1,
        1, 1, 2), 8 + 1);
    c.is("one by two ahead of them", bestTwo(0, 0, 1, 1, 0, 1, 0, 1, 2, 1, 2, 2), 1 + 2);
    c.is("0 is not some", bestTwo(0, 3, 1, 1, 3, 0, 0, 1, 1, 0, 2, 1), 2 + 4);
    c.is("nor is what is 0 from now on", bestTwo(0, 3, 1, 1, 3, 1, 1, 3, 0, 0, 1, 1, 0, 2, 1), 6);
    PrizeHouse torn = Scenes.evenLong(3, 4);
    torn.points(0, 3, 9);
    torn.points(1, 3, 1);
    torn.points(1, 2, 2);
    torn.points(2, 2, 2);
    torn.points(1, 1, 1);
    torn.points(2, 1, 2);
    torn.conflict(0, 3);
    torn.shortList(2);
    c.is("what does not count", torn.many(8), 4 + 2);
    PrizeHouse givers = Scenes.evenLong(3, 4);
    givers.points(0, 0, 9);
    givers.points(1, 0, 3);
    givers.points(1, 2, 1);
    givers.points(2, 2, 2);
    givers.points(2, 3, 4);
    givers.conflict(0, 0);
    givers.shortList(2);
    c.is("a giver in conflict is none", givers.many(8), 8 + 4);
    c.part("terms 3, \"then by SCORES, then by the smaller number\"");
    c.is("no points, even scores", bestTwo(), 1 + 2);
    c.is("the same points, even scores", bestTwo(0, 1, 2, 1, 2, 2, 2, 3, 2), 2 + 4);
    PrizeHouse scores = Scenes.longListed(4);
    scores.points(0, 3, 2);
    scores.points(1, 2, 2);
    scores.points(2, 1, 2);
    scores.shortList(2);
    c.is("the same points, falling scores", scores.many(8), 2 + 4);
    PrizeHouse rising = Scenes.with(4, 3);
    for (int b = 0; b < 4; b++) {
      Scenes.tell(rising, b, b, 100, 30 + b);
      rising.enter(b);
    }
    Scenes.readAll(rising);
    rising.longList(8);
    for (int b = 0; b < 3; b++) {
      rising.points(b, b, 2);
    }
    rising.shortList(2);
    c.is("the same points, rising scores", rising.many(8), 4 + 2);
  }

  public static void main(String[] args) {
    longListRefused();
    longListSizes();
    marksEnough();
    longListOrder();
    pointsOfNone();
    points();
    shortListRefused();
    shortListOrder();
    c.close();
  }
}
