import java.util.ArrayList;
import java.util.Comparator;
import java.util.HashMap;
import java.util.List;
import java.util.Map;
import java.util.TreeMap;
import java.util.TreeSet;

/**
 * A second telling of the document, written for plainness alone and sharing no way of reckoning
 * with PrizeHouse: pages are read one by one, copies sold day by day, lists sorted as lists.
 */
final class Model {
  private static final int NONE = -1;

  private static final class MHouse {
    int coins = 100;
    int used = 0;
  }

  private static final class MBook {
    int number;
    int house;
    int author;
    int form;
    int pages;
    int merit;
    int flavour;
    int told;
    List<Integer> enteredIn = new ArrayList<>();
    int stock;
    int sold;
    int missed;
    boolean stripped;
  }

  private static final class MJudge {
    int number;
    int speed;
    int taste;
    int lean;
    TreeSet<Integer> conflicts = new TreeSet<>();
    boolean called;
    List<MBook> crate = new ArrayList<>();
    int at;
    int into;
    int pagesRead;
    Map<MBook, Integer> marks = new HashMap<>();
    Map<MBook, Integer> points = new HashMap<>();
    List<MBook> order;

    int cratePages() {
      int sum = 0;
      for (MBook b : crate) {
        sum += b.pages;
      }
      return sum;
    }

    boolean against(MBook b) {
      return conflicts.contains(b.author);
    }

    int pointsStanding() {
      int sum = 0;
      for (int p : points.values()) {
        sum += p;
      }
      return sum;
    }
  }

  private final List<MHouse> houses = new ArrayList<>();
  private final List<MBook> books = new ArrayList<>();
  private final List<MJudge> judges = new ArrayList<>();
  private int year;
  private int phase;
  private int day;
  private int[] rules = {7, 100, 800, 10};
  private int[] told;
  private List<MBook> longlist = new ArrayList<>();
  private List<MBook> formerLonglist = new ArrayList<>();
  private List<MBook> shortlist = new ArrayList<>();
  private final Map<Integer, MBook> winners = new TreeMap<>();

  private void house(int h) {
    if (h < 0 || h >= houses.size()) {
      throw new IndexOutOfBoundsException();
    }
  }

  private MBook bookOf(int b) {
    if (b < 0 || b >= books.size()) {
      throw new IndexOutOfBoundsException();
    }
    return books.get(b);
  }

  private MJudge judgeOf(int j) {
    if (j < 0 || j >= judges.size()) {
      throw new IndexOutOfBoundsException();
    }
    return judges.get(j);
  }

  private static void range(int v, int least, int most) {
    if (v < least || v > most) {
      throw new IllegalArgumentException();
    }
  }

  private static void state(boolean good) {
    if (!good) {
      throw new IllegalStateException();
    }
  }

  int house() {
    state(houses.size() < 5);
    houses.add(new MHouse());
    return houses.size() - 1;
  }

  int book(int house, int author, int form, int pages, int merit, int flavour) {
    house(house);
    range(author, 0, 9);
    range(form, 0, 2);
    range(pages, 50, 900);
    range(merit, 0, 60);
    range(flavour, 0, 9);
    state(books.size() < 16);
    MBook b = new MBook();
    b.number = books.size();
    b.house = house;
    b.author = author;
    b.form = form;
    b.pages = pages;
    b.merit = merit;
    b.flavour = flavour;
    b.told = year;
    books.add(b);
    return b.number;
  }

  int judge(int speed, int taste, int lean) {
    range(speed, 20, 200);
    range(taste, 0, 9);
    range(lean, -10, 10);
    state(judges.size() < 5 && phase == 0);
    MJudge j = new MJudge();
    j.number = judges.size();
    j.speed = speed;
    j.taste = taste;
    j.lean = lean;
    judges.add(j);
    return j.number;
  }

  int conflict(int judge, int author) {
    MJudge j = judgeOf(judge);
    range(author, 0, 9);
    j.conflicts.add(author);
    return j.conflicts.size();
  }

  int rules(int forms, int least, int most, int fee) {
    range(forms, 1, 7);
    range(least, 50, most);
    range(most, most, 900);
    range(fee, 0, 50);
    told = new int[] {forms, least, most, fee};
    return rules[3];
  }

  private boolean entered(MBook b) {
    return b.enteredIn.contains(year);
  }

  private boolean eligible(MBook b) {
    for (int y : b.enteredIn) {
      if (y < year) {
        return false;
      }
    }
    boolean form = (rules[0] / (b.form == 0 ? 1 : b.form == 1 ? 2 : 4)) % 2 == 1;
    return (b.told == year || b.told + 1 == year) && form && b.pages >= rules[1]
        && b.pages <= rules[2];
  }

  private int quota(int house) {
    int quota = 2;
    for (MBook b : formerLonglist) {
      if (b.house == house) {
        quota++;
      }
    }
    return quota > 4 ? 4 : quota;
  }

  private int entered() {
    int n = 0;
    for (MBook b : books) {
      n += entered(b) ? 1 : 0;
    }
    return n;
  }

  int enter(int book) {
    MBook b = bookOf(book);
    state(phase == 0 && !entered(b));
    if (!eligible(b)) {
      return -2;
    }
    MHouse h = houses.get(b.house);
    if (h.used == quota(b.house)) {
      return -3;
    }
    h.used++;
    h.coins -= rules[3];
    b.enteredIn.add(year);
    return entered();
  }

  int callIn(int judge, int book) {
    MJudge j = judgeOf(judge);
    MBook b = bookOf(book);
    state(phase == 0 && !entered(b));
    if (!eligible(b)) {
      return -2;
    }
    if (j.called || j.against(b)) {
      return -3;
    }
    j.called = true;
    houses.get(b.house).coins -= Math.floorDiv(rules[3], 2);
    b.enteredIn.add(year);
    return entered();
  }

  int read() {
    state(phase == 0 && judges.size() >= 3 && entered() >= 3);
    int n = 0;
    for (MBook b : books) {
      if (entered(b)) {
        List<MJudge> free = new ArrayList<>();
        for (MJudge j : judges) {
          if (!j.against(b)) {
            free.add(j);
          }
        }
        free.sort(Comparator.comparingInt(MJudge::cratePages).thenComparingInt(j -> j.number));
        for (MJudge j : free.subList(0, Math.min(3, free.size()))) {
          j.crate.add(b);
          n++;
        }
      }
    }
    phase = 1;
    return n;
  }

  int print(int book, int copies) {
    MBook b = bookOf(book);
    range(copies, 1, 5000);
    b.stock += copies;
    if (b.stock > 9999) {
      b.stock = 9999;
    }
    return b.stock;
  }

  private static int pace(MJudge j, int readByThen) {
    int pace = j.speed;
    for (int p = 500; p <= readByThen; p += 500) {
      pace -= 5;
    }
    return pace < 10 ? 10 : pace;
  }

  private int readOneDay(MJudge j) {
    int finished = 0;
    int pace = pace(j, j.pagesRead);
    for (int page = 0; page < pace && j.at < j.crate.size(); page++) {
      j.pagesRead++;
      j.into++;
      MBook b = j.crate.get(j.at);
      if (j.into == b.pages) {
        int difference = j.taste > b.flavour ? j.taste - b.flavour : b.flavour - j.taste;
        int mark = b.merit + j.lean + 10 - 2 * difference;
        j.marks.put(b, mark < 0 ? 0 : mark > 99 ? 99 : mark);
        j.at++;
        j.into = 0;
        finished++;
      }
    }
    return finished;
  }

  private MBook winnerOf(int ofYear) {
    return winners.get(ofYear);
  }

  private int asked(MBook b) {
    if (b == winnerOf(year) || b == winnerOf(year - 1)) {
      return 90;
    }
    return shortlist.contains(b) ? 20 : longlist.contains(b) ? 5 : 1;
  }

  int pass(int days) {
    range(days, 1, 60);
    state(day + days <= 9999);
    int finished = 0;
    for (int d = 0; d < days; d++) {
      day++;
      if (phase == 1) {
        for (MJudge j : judges) {
          finished += readOneDay(j);
        }
      }
      for (MBook b : books) {
        for (int copy = 0, all = asked(b); copy < all; copy++) {
          if (b.stock > 0) {
            b.stock--;
            b.sold++;
            houses.get(b.house).coins++;
          } else {
            b.missed++;
          }
        }
      }
    }
    return finished;
  }

  private int fairMarks(MBook b) {
    int n = 0;
    for (MJudge j : judges) {
      n += j.marks.containsKey(b) && !j.against(b) ? 1 : 0;
    }
    return n;
  }

  private static int mean(List<Integer> values) {
    int sum = 0;
    for (int v : values) {
      sum += v;
    }
    return Math.floorDiv(sum, values.size());
  }

  private int score(MBook b) {
    List<Integer> parts = new ArrayList<>();
    for (MJudge j : judges) {
      if (j.marks.containsKey(b) && !j.against(b)) {
        List<Integer> tens = new ArrayList<>();
        for (int m : j.marks.values()) {
          tens.add(10 * m);
        }
        parts.add(10 * j.marks.get(b) - mean(tens));
      }
    }
    return parts.isEmpty() ? 0 : mean(parts) + 500;
  }

  int longList(int many) {
    range(many, 3, 8);
    state(phase == 1);
    for (MJudge j : judges) {
      state(j.at == j.crate.size());
    }
    List<MBook> can = new ArrayList<>();
    for (MBook b : books) {
      int fairJudges = 0;
      for (MJudge j : judges) {
        fairJudges += j.against(b) ? 0 : 1;
      }
      if (entered(b) && fairMarks(b) >= (fairJudges == 1 ? 1 : 2)) {
        can.add(b);
      }
    }
    can.sort(Comparator.comparingInt((MBook b) -> -score(b)).thenComparingInt(b -> b.number));
    for (MBook b : can) {
      int ofHouse = 0;
      for (MBook on : longlist) {
        ofHouse += on.house == b.house ? 1 : 0;
      }
      if (ofHouse < 2 && longlist.size() < many) {
        longlist.add(b);
      }
    }
    phase = 2;
    return longlist.size();
  }

  int points(int judge, int book, int points) {
    MJudge j = judgeOf(judge);
    MBook b = bookOf(book);
    if (phase != 2 || !longlist.contains(b)) {
      throw new IndexOutOfBoundsException();
    }
    range(points, 0, 12);
    state(!j.against(b));
    Integer former = j.points.get(b);
    j.points.put(b, points);
    if (j.pointsStanding() > 12) {
      if (former == null) {
        j.points.remove(b);
      } else {
        j.points.put(b, former);
      }
      throw new IllegalStateException();
    }
    return 12 - j.pointsStanding();
  }

  private int points(MBook b) {
    int sum = 0;
    for (MJudge j : judges) {
      sum += j.against(b) ? 0 : j.points.getOrDefault(b, 0);
    }
    return sum;
  }

  private int givers(MBook b) {
    int n = 0;
    for (MJudge j : judges) {
      n += !j.against(b) && j.points.getOrDefault(b, 0) != 0 ? 1 : 0;
    }
    return n;
  }

  int shortList(int many) {
    range(many, 2, 5);
    state(phase == 2);
    List<MBook> all = new ArrayList<>(longlist);
    all.sort(Comparator.comparingInt((MBook b) -> -points(b)).thenComparingInt(b -> -givers(b))
        .thenComparingInt(b -> -score(b)).thenComparingInt(b -> b.number));
    shortlist = new ArrayList<>(all.subList(0, Math.min(many, all.size())));
    shortlist.sort(Comparator.comparingInt(b -> b.number));
    phase = 3;
    return shortlist.size();
  }

  int vote(int judge, int order) {
    MJudge j = judgeOf(judge);
    String digits = String.valueOf(order);
    if (shortlist.isEmpty() || digits.length() != shortlist.size()) {
      throw new IllegalArgumentException();
    }
    List<MBook> ranked = new ArrayList<>();
    for (char c : digits.toCharArray()) {
      int place = c - '0';
      range(place, 1, shortlist.size());
      MBook b = shortlist.get(place - 1);
      if (ranked.contains(b)) {
        throw new IllegalArgumentException();
      }
      ranked.add(b);
    }
    state(phase == 3);
    j.order = ranked;
    int n = 0;
    for (MJudge other : judges) {
      n += other.order == null ? 0 : 1;
    }
    return n;
  }

  private MBook count(List<MBook> out, int judgesOut) {
    List<MBook> in = new ArrayList<>();
    for (MBook b : shortlist) {
      if (!b.stripped && !out.contains(b)) {
        in.add(b);
      }
    }
    while (in.size() > 1) {
      Map<MBook, Integer> votes = new HashMap<>();
      int all = 0;
      for (MJudge j : judges) {
        boolean counts = j.order != null
            && Math.floorMod(Math.floorDiv(judgesOut, (int) Math.pow(2, j.number)), 2) == 0;
        if (counts) {
          for (MBook b : j.order) {
            if (in.contains(b) && !j.against(b)) {
              votes.merge(b, 1, Integer::sum);
              all++;
              break;
            }
          }
        }
      }
      for (MBook b : in) {
        if (votes.getOrDefault(b, 0) > all / 2.0) {
          return b;
        }
      }
      List<MBook> byWeakness = new ArrayList<>(in);
      byWeakness.sort(Comparator.comparingInt((MBook b) -> votes.getOrDefault(b, 0))
          .thenComparingInt(b -> score(b)).thenComparingInt(b -> -b.number));
      in.remove(byWeakness.get(0));
    }
    return in.isEmpty() ? null : in.get(0);
  }

  private static int number(MBook b) {
    return b == null ? NONE : b.number;
  }

  int end() {
    state(phase == 3);
    winners.put(year, count(List.of(), 0));
    phase = 4;
    return number(winnerOf(year));
  }

  int strip() {
    state(phase == 4 && winnerOf(year) != null);
    winnerOf(year).stripped = true;
    winners.put(year, count(List.of(), 0));
    return number(winnerOf(year));
  }

  int next() {
    state(phase == 4 && year != 20);
    year++;
    phase = 0;
    if (told != null) {
      rules = told;
    }
    told = null;
    formerLonglist = longlist;
    longlist = new ArrayList<>();
    shortlist = new ArrayList<>();
    for (MHouse h : houses) {
      h.used = 0;
    }
    for (MJudge j : judges) {
      j.called = false;
      j.crate.clear();
      j.at = 0;
      j.into = 0;
      j.pagesRead = 0;
      j.marks.clear();
      j.points.clear();
      j.order = null;
    }
    return year;
  }

  int ofHouse(int house, int what) {
    house(house);
    range(what, 0, 4);
    int own = 0;
    for (MBook b : books) {
      own += b.house == house ? 1 : 0;
    }
    int won = 0;
    for (MBook b : winners.values()) {
      won += b != null && b.house == house ? 1 : 0;
    }
    MHouse h = houses.get(house);
    return new int[] {h.coins, quota(house), h.used, own, won}[what];
  }

  int ofBook(int book, int what) {
    MBook b = bookOf(book);
    range(what, 0, 10);
    int standing = longlist.contains(b) ? 1 : 0;
    standing = shortlist.contains(b) ? 2 : standing;
    standing = winnerOf(year) == b ? 3 : standing;
    return new int[] {b.house, b.author, b.stock, b.sold, b.missed, eligible(b) ? 1 : 0,
        entered(b) ? 1 : 0, standing, score(b), fairMarks(b), points(b)}[what];
  }

  int ofJudge(int judge, int what) {
    MJudge j = judgeOf(judge);
    range(what, 0, 7);
    int set = 0;
    for (int a : j.conflicts) {
      set += (int) Math.pow(2, a);
    }
    return new int[] {j.speed, set, j.crate.size(), j.cratePages() - j.pagesRead, j.at,
        j.pagesRead, j.order == null ? 0 : 1, 12 - j.pointsStanding()}[what];
  }

  int mark(int judge, int book) {
    MJudge j = judgeOf(judge);
    return j.marks.getOrDefault(bookOf(book), NONE);
  }

  private static int set(List<MBook> list) {
    int set = 0;
    for (MBook b : list) {
      set += (int) Math.pow(2, b.number);
    }
    return set;
  }

  int many(int what) {
    range(what, 0, 14);
    int stripped = 0;
    int sold = 0;
    int missed = 0;
    for (MBook b : books) {
      stripped += b.stripped ? 1 : 0;
      sold += b.sold;
      missed += b.missed;
    }
    return new int[] {year, phase, day, houses.size(), books.size(), judges.size(), entered(),
        set(longlist), set(shortlist), number(winnerOf(year)), number(winnerOf(year - 1)),
        stripped, sold, missed, rules[3]}[what];
  }

  double meanMark() {
    double sum = 0;
    int n = 0;
    for (MJudge j : judges) {
      for (int m : j.marks.values()) {
        sum += m;
        n++;
      }
    }
    return n == 0 ? 0 : sum / n;
  }

  int wins(int judges) {
    range(judges, 0, 31);
    return phase < 3 ? NONE : number(count(List.of(), judges));
  }

  private boolean ahead(MBook b, MBook other) {
    int before = 0;
    int behind = 0;
    for (MJudge j : judges) {
      if (j.order != null && !j.against(b) && !j.against(other)) {
        if (j.order.indexOf(b) < j.order.indexOf(other)) {
          before++;
        } else {
          behind++;
        }
      }
    }
    return before > behind;
  }

  int beatsAll() {
    for (MBook b : shortlist) {
      boolean all = true;
      for (MBook other : shortlist) {
        all &= b == other || ahead(b, other);
      }
      if (all && phase >= 3) {
        return b.number;
      }
    }
    return NONE;
  }

  int spoiled(int book) {
    MBook b = bookOf(book);
    return phase < 3 || !shortlist.contains(b) ? NONE : number(count(List.of(b), 0));
  }

  int readIn() {
    if (phase != 1) {
      return NONE;
    }
    int longest = 0;
    for (MJudge j : judges) {
      int days = 0;
      for (int read = j.pagesRead; read < j.cratePages(); read += pace(j, read)) {
        days++;
      }
      longest = Math.max(longest, days);
    }
    return longest;
  }

  int wouldMiss(int days) {
    range(days, 1, 60);
    int missed = 0;
    for (MBook b : books) {
      int stock = b.stock;
      for (int d = 0; d < days; d++) {
        int sold = Math.min(stock, asked(b));
        missed += asked(b) - sold;
        stock -= sold;
      }
    }
    return missed;
  }

  long digest() {
    List<Integer> all = new ArrayList<>();
    for (int w = 0; w < 15; w++) {
      all.add(many(w));
    }
    for (int h = 0; h < houses.size(); h++) {
      for (int w = 0; w < 5; w++) {
        all.add(ofHouse(h, w));
      }
    }
    for (int b = 0; b < books.size(); b++) {
      for (int w = 0; w < 11; w++) {
        all.add(ofBook(b, w));
      }
      all.add(spoiled(b));
    }
    for (int j = 0; j < judges.size(); j++) {
      for (int w = 0; w < 8; w++) {
        all.add(ofJudge(j, w));
      }
      for (int b = 0; b < books.size(); b++) {
        all.add(mark(j, b));
      }
    }
    all.addAll(List.of(wins(0), wins(1), beatsAll(), readIn(), wouldMiss(7)));
    long d = 9117;
    for (int v : all) {
      d = d * 31 + v;
    }
    return d;
  }
}
