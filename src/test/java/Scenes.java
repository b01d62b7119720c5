/** Prizes in states that several tests begin with. */
final class Scenes {
  private Scenes() {
  }

  /**
   * Three houses; three judges of speed 200, taste 5 and lean 0; six books of 100 pages, each by the
   * author of its own number, of house b % 3, form 0 and flavour 5. Merits are 60, 50, 40, 30, 20, 10.
   */
  static PrizeHouse told() {
    PrizeHouse p = new PrizeHouse();
    for (int h = 0; h < 3; h++) {
      p.house();
    }
    for (int j = 0; j < 3; j++) {
      p.judge(200, 5, 0);
    }
    for (int b = 0; b < 6; b++) {
      p.book(b % 3, b, 0, 100, 60 - 10 * b, 5);
    }
    return p;
  }

  /** As told, and all six are entered; each house has 80 coins left. */
  static PrizeHouse entered() {
    PrizeHouse p = told();
    for (int b = 0; b < 6; b++) {
      p.enter(b);
    }
    return p;
  }

  /** As entered, reading has begun: each judge has all six, 600 pages for three days. */
  static PrizeHouse reading() {
    PrizeHouse p = entered();
    p.read();
    return p;
  }

  /** As reading, three days later: marks are 70 to 20, scores 750, 650, 550, 450, 350, 250. */
  static PrizeHouse read() {
    PrizeHouse p = reading();
    p.pass(3);
    return p;
  }

  /** As read, with the best so many on the longlist. */
  static PrizeHouse longListed(int many) {
    PrizeHouse p = read();
    p.longList(many);
    return p;
  }

  /** As longListed, with the best so many on the shortlist, by scores. */
  static PrizeHouse shortListed(int many) {
    PrizeHouse p = longListed(8);
    p.shortList(many);
    return p;
  }

  /** As shortListed with three, at its end without orders: book 0 is the winner. */
  static PrizeHouse ended() {
    PrizeHouse p = shortListed(3);
    p.end();
    return p;
  }

  /** As ended, in entry of the next year: books 0 to 5 were entered, house 0 has a quota of 4. */
  static PrizeHouse nextYear() {
    PrizeHouse p = ended();
    p.next();
    return p;
  }

  /** So many houses, and so many judges of speed 200, taste 5 and lean 0. */
  static PrizeHouse with(int houses, int judges) {
    PrizeHouse p = new PrizeHouse();
    for (int h = 0; h < houses; h++) {
      p.house();
    }
    for (int j = 0; j < judges; j++) {
      p.judge(200, 5, 0);
    }
    return p;
  }

  /** Tells a book of form 0 and flavour 5, which the judges of the scenes mark with merit + 10. */
  static int tell(PrizeHouse p, int house, int author, int pages, int merit) {
    return p.book(house, author, 0, pages, merit, 5);
  }

  static void enterAll(PrizeHouse p, int... books) {
    for (int b : books) {
      p.enter(b);
    }
  }

  /** Begins reading, and reads on until all crates are read. */
  static void readAll(PrizeHouse p) {
    p.read();
    while (p.readIn() > 0) {
      p.pass(1);
    }
  }

  /** All that there can be: 5 houses, 5 judges, 16 books of 100 pages by author b % 10. */
  static PrizeHouse full() {
    PrizeHouse p = with(5, 5);
    for (int b = 0; b < 16; b++) {
      tell(p, b % 5, b % 10, 100, 3 * b);
    }
    return p;
  }

  /** As full, with the 15 books entered that can be in the first year: 10 told, 5 called in. */
  static PrizeHouse fullEntered() {
    PrizeHouse p = full();
    for (int b = 0; b < 10; b++) {
      p.enter(b);
    }
    for (int j = 0; j < 5; j++) {
      p.callIn(j, 10 + j);
    }
    return p;
  }

  /** Phase 2: so many books on the longlist, each by its own house and author, all of score 500. */
  static PrizeHouse evenLong(int judges, int books) {
    PrizeHouse p = with(5, judges);
    for (int b = 0; b < books; b++) {
      tell(p, b, b, 100, 30);
      p.enter(b);
    }
    readAll(p);
    p.longList(8);
    return p;
  }

  /** As evenLong, with all of them on the shortlist. */
  static PrizeHouse even(int judges, int books) {
    PrizeHouse p = evenLong(judges, books);
    p.shortList(5);
    return p;
  }

  /** As read, but each judge is in conflict with each author by now. */
  static PrizeHouse disowned() {
    PrizeHouse p = read();
    for (int j = 0; j < 3; j++) {
      disown(p, j);
    }
    return p;
  }

  static void disown(PrizeHouse p, int judge) {
    for (int author = 0; author < 10; author++) {
      p.conflict(judge, author);
    }
  }

  /** Lets days go by until it is that day. */
  static PrizeHouse onDay(PrizeHouse p, int day) {
    int left = day - p.many(2);
    for (; left > 0; left -= 60) {
      p.pass(Math.min(60, left));
    }
    return p;
  }

  /** Goes from phase 0, where three books or more are entered, to the next year. */
  static void finishYear(PrizeHouse p) {
    readAll(p);
    p.longList(8);
    p.shortList(5);
    p.end();
    p.next();
  }

  /** A prize in the phase of that number, otherwise as the scenes above. */
  static PrizeHouse inPhase(int phase) {
    switch (phase) {
      case 0: return entered();
      case 1: return read();
      case 2: return longListed(8);
      case 3: return shortListed(3);
      default: return ended();
    }
  }
}
