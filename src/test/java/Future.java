import java.util.ArrayList;
import java.util.List;

/**
 * What a prize answers from now on, over the rest of this year and two more: whatever an object
 * holds without showing it at once comes to light in there.
 */
final class Future {
  private final PrizeHouse p;
  private final List<String> told = new ArrayList<>();

  private Future(PrizeHouse p) {
    this.p = p;
  }

  static List<String> of(PrizeHouse p) {
    Future future = new Future(p);
    future.ask("digest()", p::digest);
    future.asIs();
    for (int year = 0; year < 3; year++) {
      future.year(year);
    }
    return future.told;
  }

  private void ask(String call, Check.Call run) {
    String answer;
    try {
      answer = String.valueOf(run.answer());
    } catch (RuntimeException e) {
      answer = e.getClass().getName();
    }
    told.add(call + " answered " + answer);
  }

  /** Ahead of calls that put other values in place of hidden ones. */
  private void asIs() {
    for (int set = 2; set < 8; set++) {
      int judges = set;
      ask("wins(" + set + ")", () -> p.wins(judges));
    }
    ask("meanMark()", p::meanMark);
  }

  private void year(int year) {
    entry(year);
    ask("read()", p::read);
    ask("pass(1)", () -> p.pass(1));
    ask("digest() while reading", p::digest);
    for (int k = 0; k < 4; k++) {
      ask("pass(30)", () -> p.pass(30));
    }
    ask("longList(8)", () -> p.longList(8));
    points();
    ask("shortList(5)", () -> p.shortList(5));
    votes();
    ask("end()", p::end);
    ask("strip()", p::strip);
    ask("digest() at the end", p::digest);
    ask("next()", p::next);
    ask("digest() in the next year", p::digest);
  }

  /** Books of each form and at the borders of pages show by which rules a year goes. */
  private void entry(int year) {
    ask("house()", p::house);
    ask("judge", () -> p.judge(190 - year, 3, 1));
    ask("book", () -> p.book(0, 8, 0, year == 1 ? 900 : 50, 20, 4));
    ask("book", () -> p.book(0, 7, 1, year == 1 ? 800 : 100, 30, 6));
    ask("book", () -> p.book(0, 9, 2, year == 1 ? 801 : 99, 10, 1));
    for (int k = 0; k < 10; k++) {
      int judge = k % 5;
      int book = k;
      ask("callIn(" + judge + ", " + book + ")", () -> p.callIn(judge, book));
    }
    for (int b = 0; b < 16; b++) {
      int book = b;
      ask("enter(" + b + ")", () -> p.enter(book));
    }
    ask("print(0, 30)", () -> p.print(0, 30));
  }

  private void points() {
    for (int k = 0; k < 40; k++) {
      int judge = k / 8;
      int book = k % 8;
      ask("points(" + judge + ", " + book + ")", () -> p.points(judge, book, (judge + book) % 4));
    }
    ask("digest() with points", p::digest);
  }

  private void votes() {
    int size = Integer.bitCount(p.many(8));
    int rising = 0;
    int falling = 0;
    for (int k = 1; k <= size; k++) {
      rising = 10 * rising + k;
      falling = 10 * falling + size + 1 - k;
    }
    int first = rising;
    int second = falling;
    ask("vote(1, " + first + ")", () -> p.vote(1, first));
    ask("digest() with an order", p::digest);
    ask("vote(2, " + second + ")", () -> p.vote(2, second));
    ask("digest() with orders", p::digest);
  }
}
