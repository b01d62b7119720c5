import java.util.ArrayList;
import java.util.List;

/**
 * What a prize answers from now on, until entry of the year after the next one: whatever an object
 * holds without showing it at once comes to light in there. But for a judge who may have called one
 * in, no call is made that is to be refused: that might hide what an earlier one like it changed.
 */
final class Future {
  private final PrizeHouse p;
  private final boolean callsIn;
  private final List<String> told = new ArrayList<>();

  private Future(PrizeHouse p, boolean callsIn) {
    this.p = p;
    this.callsIn = callsIn;
  }

  static List<String> of(PrizeHouse p, boolean callsIn) {
    Future future = new Future(p, callsIn);
    try {
      future.goOn();
    } catch (RuntimeException e) {
      future.told.add("a call threw " + e.getClass().getName());
    }
    return future.told;
  }

  private void goOn() {
    asIs();
    year(0);
    if (p.many(1) == 0) {
      year(1);
    }
    if (p.many(1) == 0) {
      tell(2);
    }
  }

  private int ask(String call, int answer) {
    told.add(call + " answered " + answer);
    return answer;
  }

  private void digest(String when) {
    told.add("digest() " + when + " answered " + p.digest());
  }

  private void asIs() {
    digest("at once");
    for (int set = 2; set < 8; set++) {
      ask("wins(" + set + ")", p.wins(set));
    }
    told.add("meanMark() answered " + p.meanMark());
  }

  /** Goes on in the phase that it is, as far as it can. */
  private void year(int year) {
    if (p.many(1) == 0) {
      tell(year);
      if (callsIn) {
        callIn();
      }
      enter();
      if (p.many(5) >= 3 && p.many(6) >= 3) {
        ask("read()", p.read());
      }
    }
    if (p.many(1) == 1) {
      readOn();
    }
    if (p.many(1) == 2) {
      points();
      ask("shortList(5)", p.shortList(5));
    }
    if (p.many(1) == 3) {
      votes();
      ask("end()", p.end());
    }
    if (p.many(1) == 4) {
      if (p.many(9) != -1) {
        ask("strip()", p.strip());
      }
      digest("at the end");
      ask("next()", p.next());
    }
  }

  /** Books of each form, and near the borders of pages, show by which rules a year goes. */
  private void tell(int year) {
    if (p.many(3) < 5) {
      ask("house()", p.house());
    }
    for (int taste = 3; taste < 6 && p.many(5) < 5; taste++) {
      ask("judge", p.judge(190 - year, taste, 1));
    }
    int[][] pages = {{99, 300, 100}, {200, 801, 100}, {200, 300, 900}};
    for (int form = 0; form < 3 && p.many(3) > 0 && p.many(4) < 16; form++) {
      ask("book", p.book(0, 9 - form, form, pages[year][form], 10 + 10 * form, 1 + 2 * form));
    }
    digest("in entry");
  }

  private boolean canCome(int book) {
    return p.ofBook(book, 5) == 1 && p.ofBook(book, 6) == 0;
  }

  private void callIn() {
    int book = 0;
    for (int judge = 0; judge < p.many(5); judge++) {
      while (book < p.many(4) && !canCome(book)) {
        book++;
      }
      if (book < p.many(4) && (p.ofJudge(judge, 1) >> p.ofBook(book, 1) & 1) == 0) {
        ask("callIn(" + judge + ", " + book + ")", p.callIn(judge, book));
      }
    }
  }

  private void enter() {
    for (int b = 0; b < p.many(4); b++) {
      if (canCome(b)) {
        int house = p.ofBook(b, 0);
        if (p.ofHouse(house, 1) > p.ofHouse(house, 2)) {
          ask("enter(" + b + ")", p.enter(b));
        }
      }
    }
  }

  private void readOn() {
    for (int k = 0; k < 20 && p.readIn() > 0; k++) {
      int days = Math.min(k == 0 ? 1 : 60, 9999 - p.many(2));
      if (days == 0) {
        return;
      }
      ask("pass(" + days + ")", p.pass(days));
      digest("while reading");
    }
    ask("longList(8)", p.longList(8));
  }

  private void points() {
    int listed = p.many(7);
    for (int judge = 0; judge < 2; judge++) {
      int left = p.ofJudge(judge, 7);
      int against = p.ofJudge(judge, 1);
      for (int b = 0; b < 6; b++) {
        if ((listed >> b & 1) == 1 && (against >> p.ofBook(b, 1) & 1) == 0 && left > 2) {
          left = ask("points(" + judge + ", " + b + ")", p.points(judge, b, 1 + judge));
        }
      }
    }
    digest("with points");
  }

  private void votes() {
    int size = Integer.bitCount(p.many(8));
    int rising = 0;
    int falling = 0;
    for (int k = 1; k <= size; k++) {
      rising = 10 * rising + k;
      falling = 10 * falling + size + 1 - k;
    }
    if (size > 0) {
      ask("vote(1, " + rising + ")", p.vote(1, rising));
      digest("with an order");
      ask("vote(2, " + falling + ")", p.vote(2, falling));
      digest("with orders");
    }
  }
}
