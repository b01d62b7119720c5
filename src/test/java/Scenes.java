/** Prizes in states that several tests begin with. */
final class Scenes {
  private Scenes() {
  }

  /**
   * Three houses; three judges of speed 200, taste 5 and lean 0; six books of 100 pages, each by the
   * author of its own number, of house b % 3, form 0 and flavour 5. Merits are 60, 50, 40, 30, 20, 10.
   */
  static PrizeHouse told() {
    PrizeHouse p = new PrizeHouse();
    for (int h = 0; h < 3; h++) {
      p.house();
    }
    for (int j = 0; j < 3; j++) {
      p.judge(200, 5, 0);
    }
    for (int b = 0; b < 6; b++) {
      p.book(b % 3, b, 0, 100, 60 - 10 * b, 5);
    }
    return p;
  }

  /** As told, and all six are entered; each house has 80 coins left. */
  static PrizeHouse entered() {
    PrizeHouse p = told();
    for (int b = 0; b < 6; b++) {
      p.enter(b);
    }
    return p;
  }

  /** As entered, reading has begun: each judge has all six, 600 pages for three days. */
  static PrizeHouse reading() {
    PrizeHouse p = entered();
    p.read();
    return p;
  }

  /** As reading, three days later: marks are 70 to 20, scores 750, 650, 550, 450, 350, 250. */
  static PrizeHouse read() {
    PrizeHouse p = reading();
    p.pass(3);
    return p;
  }

  /** As read, with the best so many on the longlist. */
  static PrizeHouse longListed(int many) {
    PrizeHouse p = read();
    p.longList(many);
    return p;
  }

  /** As longListed, with the best so many on the shortlist, by scores. */
  static PrizeHouse shortListed(int many) {
    PrizeHouse p = longListed(8);
    p.shortList(many);
    return p;
  }

  /** As shortListed with three, at its end without orders: book 0 is the winner. */
  static PrizeHouse ended() {
    PrizeHouse p = shortListed(3);
    p.end();
    return p;
  }

  /** Goes from phase 0, where three books or more are entered, to the next year. */
  static void finishYear(PrizeHouse p) {
    p.read();
    while (p.readIn() > 0) {
      p.pass(1);
    }
    p.longList(8);
    p.shortList(5);
    p.end();
    p.next();
  }

  /** A prize in the phase of that number, otherwise as the scenes above. */
  static PrizeHouse inPhase(int phase) {
    switch (phase) {
      case 0: return entered();
      case 1: return read();
      case 2: return longListed(8);
      case 3: return shortListed(3);
      default: return ended();
    }
  }
}
