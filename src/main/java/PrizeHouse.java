/**
 * A prize for a book: houses enter books, judges read, mark and list them, and vote on the winner.
 *
 * <p>Every row is made in a constructor and used again, so that no call makes an object. Sets of
 * books, judges, authors and forms are held as sums of 2^number.
 */
public final class PrizeHouse {
  private static final int NONE = -1;
  private static final int NOT_ELIGIBLE = -2;
  private static final int REFUSED = -3;

  private static final int ENTRY = 0;
  private static final int READING = 1;
  private static final int LONG = 2;
  private static final int SHORT = 3;
  private static final int END = 4;

  private static final int MOST_HOUSES = 5;
  private static final int MOST_BOOKS = 16;
  private static final int MOST_JUDGES = 5;
  private static final int MOST_ON_SHORTLIST = 5;
  private static final int MOST_OF_HOUSE_ON_LONGLIST = 2;
  private static final int LAST_AUTHOR = 9;
  private static final int LAST_YEAR = 20;
  private static final int LAST_DAY = 9999;
  private static final int MOST_STOCK = 9999;
  private static final int MOST_DAYS_AT_ONCE = 60;
  private static final int READERS_OF_A_BOOK = 3;
  private static final int LEAST_TO_READ = 3;
  private static final int POINTS_OF_A_JUDGE = 12;

  private final House[] houses = new House[MOST_HOUSES];
  private final Book[] books = new Book[MOST_BOOKS];
  private final Judge[] judges = new Judge[MOST_JUDGES];
  private int houseCount;
  private int bookCount;
  private int judgeCount;

  private final Rules rulesNow = new Rules();
  private final Rules rulesNext = new Rules();
  private int year;
  private int phase = ENTRY;
  private int day;

  private int longSet;
  private int formerLongSet;
  /** Empty ahead of PHASE 3: that is why nobody wins, beats or spoils by then. */
  private int shortSet;
  private int winner = NONE;
  private int formerWinner = NONE;
  /** The WINNERS ever, those that were STRIPPED too. No BOOK can be one in two YEARS. */
  private int wonSet;
  private int strippedSet;

  /** How many ORDERS are for each BOOK in the round of COUNTING that is under way. */
  private final int[] votes = new int[MOST_BOOKS];

  public PrizeHouse() {
    for (int h = 0; h < MOST_HOUSES; h++) {
      houses[h] = new House();
    }
    for (int b = 0; b < MOST_BOOKS; b++) {
      books[b] = new Book();
    }
    for (int j = 0; j < MOST_JUDGES; j++) {
      judges[j] = new Judge();
    }
  }

  // ---- what is told

  public int house() throws IllegalStateException {
    if (houseCount >= MOST_HOUSES) {
      throw new IllegalStateException("there are 5 houses");
    }
    houseCount++;
    return houseCount - 1;
  }

  public int book(int house, int author, int form, int pages, int merit, int flavour)
      throws IndexOutOfBoundsException, IllegalArgumentException, IllegalStateException {
    if (!isHouse(house)) {
      throw new IndexOutOfBoundsException("no such house");
    }
    if (!isAuthor(author) || !isWithin(form, 0, 2) || !isWithin(pages, 50, 900)
        || !isWithin(merit, 0, 60) || !isWithin(flavour, 0, 9)) {
      throw new IllegalArgumentException("no such book can be");
    }
    if (bookCount >= MOST_BOOKS) {
      throw new IllegalStateException("there were 16 books");
    }
    books[bookCount].describe(house, author, form, pages, merit, flavour);
    books[bookCount].toldYear = year;
    bookCount++;
    return bookCount - 1;
  }

  public int judge(int speed, int taste, int lean)
      throws IllegalArgumentException, IllegalStateException {
    if (!isWithin(speed, 20, 200) || !isWithin(taste, 0, 9) || !isWithin(lean, -10, 10)) {
      throw new IllegalArgumentException("no such judge can be");
    }
    if (judgeCount >= MOST_JUDGES || phase != ENTRY) {
      throw new IllegalStateException("there are 5 judges, or entry is over");
    }
    judges[judgeCount].describe(speed, taste, lean);
    judgeCount++;
    return judgeCount - 1;
  }

  public int conflict(int judge, int author)
      throws IndexOutOfBoundsException, IllegalArgumentException {
    if (!isJudge(judge)) {
      throw new IndexOutOfBoundsException("no such judge");
    }
    if (!isAuthor(author)) {
      throw new IllegalArgumentException("no such author");
    }
    judges[judge].conflicts |= bit(author);
    return Integer.bitCount(judges[judge].conflicts);
  }

  public int rules(int forms, int least, int most, int fee) throws IllegalArgumentException {
    if (!isWithin(forms, 1, 7) || !isWithin(least, 50, most) || most > 900
        || !isWithin(fee, 0, 50)) {
      throw new IllegalArgumentException("no such rules can be");
    }
    rulesNext.set(forms, least, most, fee);
    return rulesNow.fee;
  }

  // ---- what is done

  public int enter(int book) throws IndexOutOfBoundsException, IllegalStateException {
    if (!isBook(book)) {
      throw new IndexOutOfBoundsException("no such book");
    }
    if (phase != ENTRY || isEntered(book)) {
      throw new IllegalStateException("entry is over, or the book is entered");
    }
    if (!isEligible(book)) {
      return NOT_ELIGIBLE;
    }
    int house = books[book].house;
    if (houses[house].quotaUsed >= quotaOf(house)) {
      return REFUSED;
    }
    houses[house].quotaUsed++;
    return enterFor(book, rulesNow.fee);
  }

  public int callIn(int judge, int book) throws IndexOutOfBoundsException, IllegalStateException {
    if (!isJudge(judge) || !isBook(book)) {
      throw new IndexOutOfBoundsException("no such judge or book");
    }
    if (phase != ENTRY || isEntered(book)) {
      throw new IllegalStateException("entry is over, or the book is entered");
    }
    if (!isEligible(book)) {
      return NOT_ELIGIBLE;
    }
    if (judges[judge].hasCalledIn || judges[judge].isAgainst(books[book].author)) {
      return REFUSED;
    }
    judges[judge].hasCalledIn = true;
    return enterFor(book, rulesNow.fee / 2);
  }

  public int read() throws IllegalStateException {
    if (phase != ENTRY || judgeCount < LEAST_TO_READ || enteredCount() < LEAST_TO_READ) {
      throw new IllegalStateException("entry is over, or judges or entered books lack");
    }
    int given = 0;
    for (int b = 0; b < bookCount; b++) {
      if (isEntered(b)) {
        given += handOut(b);
      }
    }
    phase = READING;
    return given;
  }

  public int print(int book, int copies)
      throws IndexOutOfBoundsException, IllegalArgumentException {
    if (!isBook(book)) {
      throw new IndexOutOfBoundsException("no such book");
    }
    if (!isWithin(copies, 1, 5000)) {
      throw new IllegalArgumentException("copies are 1 to 5000");
    }
    books[book].stock = Math.min(MOST_STOCK, books[book].stock + copies);
    return books[book].stock;
  }

  public int pass(int days) throws IllegalArgumentException, IllegalStateException {
    if (!isWithin(days, 1, MOST_DAYS_AT_ONCE)) {
      throw new IllegalArgumentException("days are 1 to 60");
    }
    if (day + days > LAST_DAY) {
      throw new IllegalStateException("the day would be above 9999");
    }
    int finished = 0;
    for (int d = 0; d < days; d++) {
      finished += readForDay();
    }
    sellFor(days);
    day += days;
    return finished;
  }

  public int longList(int many) throws IllegalArgumentException, IllegalStateException {
    if (!isWithin(many, 3, 8)) {
      throw new IllegalArgumentException("a longlist has 3 to 8 places");
    }
    if (phase != READING || !areCratesRead()) {
      throw new IllegalStateException("not the time of reading, or a crate is not read");
    }
    fillLongList(many);
    phase = LONG;
    return Integer.bitCount(longSet);
  }

  public int points(int judge, int book, int points)
      throws IndexOutOfBoundsException, IllegalArgumentException, IllegalStateException {
    if (!isJudge(judge) || !isBook(book) || phase != LONG || !has(longSet, book)) {
      throw new IndexOutOfBoundsException("no such judge, or book on a longlist to give points");
    }
    if (!isWithin(points, 0, POINTS_OF_A_JUDGE)) {
      throw new IllegalArgumentException("points are 0 to 12");
    }
    int left = judges[judge].pointsLeft() + judges[judge].points[book] - points;
    if (judges[judge].isAgainst(books[book].author) || left < 0) {
      throw new IllegalStateException("a conflict, or more than 12 points");
    }
    judges[judge].points[book] = points;
    return left;
  }

  public int shortList(int many) throws IllegalArgumentException, IllegalStateException {
    if (!isWithin(many, 2, MOST_ON_SHORTLIST)) {
      throw new IllegalArgumentException("a shortlist has 2 to 5 places");
    }
    if (phase != LONG) {
      throw new IllegalStateException("there is no longlist to choose from");
    }
    fillShortList(many);
    phase = SHORT;
    return Integer.bitCount(shortSet);
  }

  public int vote(int judge, int order)
      throws IndexOutOfBoundsException, IllegalArgumentException, IllegalStateException {
    if (!isJudge(judge)) {
      throw new IndexOutOfBoundsException("no such judge");
    }
    if (!isOrder(order)) {
      throw new IllegalArgumentException("not an order of the shortlist");
    }
    if (phase != SHORT) {
      throw new IllegalStateException("not the time to vote");
    }
    takeOrder(judges[judge], order);
    return orderCount();
  }

  public int end() throws IllegalStateException {
    if (phase != SHORT) {
      throw new IllegalStateException("there is no vote to end");
    }
    crown(winnerWithout(0, 0));
    phase = END;
    return winner;
  }

  public int strip() throws IllegalStateException {
    if (phase != END || winner == NONE) {
      throw new IllegalStateException("there is no winner to strip");
    }
    strippedSet |= bit(winner);
    crown(winnerWithout(0, 0));
    return winner;
  }

  public int next() throws IllegalStateException {
    if (phase != END || year >= LAST_YEAR) {
      throw new IllegalStateException("the year is not at its end, or is the last one");
    }
    year++;
    phase = ENTRY;
    rulesNow.set(rulesNext.forms, rulesNext.least, rulesNext.most, rulesNext.fee);
    formerWinner = winner;
    winner = NONE;
    formerLongSet = longSet;
    longSet = 0;
    shortSet = 0;
    for (int h = 0; h < MOST_HOUSES; h++) {
      houses[h].quotaUsed = 0;
    }
    for (int j = 0; j < MOST_JUDGES; j++) {
      judges[j].clearYear();
    }
    return year;
  }

  // ---- what one asks

  public int ofHouse(int house, int what)
      throws IndexOutOfBoundsException, IllegalArgumentException {
    if (!isHouse(house)) {
      throw new IndexOutOfBoundsException("no such house");
    }
    switch (what) {
      case 0:
        return houses[house].coins;
      case 1:
        return quotaOf(house);
      case 2:
        return houses[house].quotaUsed;
      case 3:
        return countOfHouse(house, allBooks());
      case 4:
        return countOfHouse(house, wonSet & ~strippedSet);
      default:
        throw new IllegalArgumentException("what is 0 to 4");
    }
  }

  public int ofBook(int book, int what)
      throws IndexOutOfBoundsException, IllegalArgumentException {
    if (!isBook(book)) {
      throw new IndexOutOfBoundsException("no such book");
    }
    switch (what) {
      case 0:
        return books[book].house;
      case 1:
        return books[book].author;
      case 2:
        return books[book].stock;
      case 3:
        return books[book].sold;
      case 4:
        return books[book].missed;
      case 5:
        return isEligible(book) ? 1 : 0;
      case 6:
        return isEntered(book) ? 1 : 0;
      case 7:
        return standingOf(book);
      case 8:
        return scoreOf(book);
      case 9:
        return fairMarksOf(book);
      case 10:
        return pointsOf(book);
      default:
        throw new IllegalArgumentException("what is 0 to 10");
    }
  }

  public int ofJudge(int judge, int what)
      throws IndexOutOfBoundsException, IllegalArgumentException {
    if (!isJudge(judge)) {
      throw new IndexOutOfBoundsException("no such judge");
    }
    switch (what) {
      case 0:
        return judges[judge].speed;
      case 1:
        return judges[judge].conflicts;
      case 2:
        return judges[judge].crateCount;
      case 3:
        return judges[judge].pagesLeft();
      case 4:
        return judges[judge].booksRead;
      case 5:
        return judges[judge].pagesRead;
      case 6:
        return judges[judge].hasOrder() ? 1 : 0;
      case 7:
        return judges[judge].pointsLeft();
      default:
        throw new IllegalArgumentException("what is 0 to 7");
    }
  }

  public int mark(int judge, int book) throws IndexOutOfBoundsException {
    if (!isJudge(judge) || !isBook(book)) {
      throw new IndexOutOfBoundsException("no such judge or book");
    }
    return judges[judge].marks[book];
  }

  public int many(int what) throws IllegalArgumentException {
    switch (what) {
      case 0:
        return year;
      case 1:
        return phase;
      case 2:
        return day;
      case 3:
        return houseCount;
      case 4:
        return bookCount;
      case 5:
        return judgeCount;
      case 6:
        return enteredCount();
      case 7:
        return longSet;
      case 8:
        return shortSet;
      case 9:
        return winner;
      case 10:
        return formerWinner;
      case 11:
        return Integer.bitCount(strippedSet);
      case 12:
        return soldEver();
      case 13:
        return missedEver();
      case 14:
        return rulesNow.fee;
      default:
        throw new IllegalArgumentException("what is 0 to 14");
    }
  }

  public double meanMark() {
    int sum = 0;
    int count = 0;
    for (int j = 0; j < judgeCount; j++) {
      sum += judges[j].markSum;
      count += judges[j].booksRead;
    }
    return count == 0 ? 0.0 : (double) sum / (double) count;
  }

  // ---- what would be (nothing is changed)

  public int wins(int judges) throws IllegalArgumentException {
    if (!isWithin(judges, 0, 31)) {
      throw new IllegalArgumentException("a set of judges is 0 to 31");
    }
    return winnerWithout(0, judges);
  }

  public int beatsAll() {
    for (int b = 0; b < bookCount; b++) {
      if (has(shortSet, b) && isAheadOfRest(b)) {
        return b;
      }
    }
    return NONE;
  }

  public int spoiled(int book) throws IndexOutOfBoundsException {
    if (!isBook(book)) {
      throw new IndexOutOfBoundsException("no such book");
    }
    return has(shortSet, book) ? winnerWithout(bit(book), 0) : NONE;
  }

  public int readIn() {
    if (phase != READING) {
      return NONE;
    }
    int days = 0;
    for (int j = 0; j < judgeCount; j++) {
      days = Math.max(days, judges[j].daysLeft());
    }
    return days;
  }

  public int wouldMiss(int days) throws IllegalArgumentException {
    if (!isWithin(days, 1, MOST_DAYS_AT_ONCE)) {
      throw new IllegalArgumentException("days are 1 to 60");
    }
    int missed = 0;
    for (int b = 0; b < bookCount; b++) {
      missed += Math.max(0, askedInDay(b) * days - books[b].stock);
    }
    return missed;
  }

  /** The values stand here in the document's order, each asked as a caller would ask it. */
  public long digest() {
    long d = 9117;
    for (int what = 0; what <= 14; what++) {
      d = d * 31 + many(what);
    }
    for (int h = 0; h < houseCount; h++) {
      for (int what = 0; what <= 4; what++) {
        d = d * 31 + ofHouse(h, what);
      }
    }
    for (int b = 0; b < bookCount; b++) {
      for (int what = 0; what <= 10; what++) {
        d = d * 31 + ofBook(b, what);
      }
      d = d * 31 + spoiled(b);
    }
    for (int j = 0; j < judgeCount; j++) {
      for (int what = 0; what <= 7; what++) {
        d = d * 31 + ofJudge(j, what);
      }
      for (int b = 0; b < bookCount; b++) {
        d = d * 31 + mark(j, b);
      }
    }
    d = d * 31 + wins(0);
    d = d * 31 + wins(1);
    d = d * 31 + beatsAll();
    d = d * 31 + readIn();
    return d * 31 + wouldMiss(7);
  }

  // ---- what can be told and named

  private static boolean isWithin(int value, int least, int most) {
    return value >= least && value <= most;
  }

  private static boolean isAuthor(int author) {
    return isWithin(author, 0, LAST_AUTHOR);
  }

  private boolean isHouse(int house) {
    return house >= 0 && house < houseCount;
  }

  private boolean isBook(int book) {
    return book >= 0 && book < bookCount;
  }

  private boolean isJudge(int judge) {
    return judge >= 0 && judge < judgeCount;
  }

  private static int bit(int number) {
    return 1 << number;
  }

  private static boolean has(int set, int number) {
    return (set & 1 << number) != 0;
  }

  // ---- houses and what they enter

  private int allBooks() {
    return bit(bookCount) - 1;
  }

  private int countOfHouse(int house, int set) {
    int count = 0;
    for (int b = 0; b < bookCount; b++) {
      if (has(set, b) && books[b].house == house) {
        count++;
      }
    }
    return count;
  }

  private int quotaOf(int house) {
    return Math.min(4, 2 + countOfHouse(house, formerLongSet));
  }

  private boolean isEntered(int book) {
    return books[book].enteredYear == year;
  }

  private boolean isEligible(int book) {
    Book asked = books[book];
    boolean isFresh = asked.enteredYear == NONE || asked.enteredYear == year;
    return isFresh && year - asked.toldYear <= 1 && rulesNow.admit(asked.form, asked.pages);
  }

  private int enteredCount() {
    int count = 0;
    for (int b = 0; b < bookCount; b++) {
      if (isEntered(b)) {
        count++;
      }
    }
    return count;
  }

  private int enterFor(int book, int cost) {
    books[book].enteredYear = year;
    houses[books[book].house].coins -= cost;
    return enteredCount();
  }

  // ---- crates

  /** Answers how many JUDGES got the BOOK. */
  private int handOut(int book) {
    int taken = 0;
    for (int turn = 0; turn < READERS_OF_A_BOOK; turn++) {
      int judge = lightestWithout(taken, books[book].author);
      if (judge != NONE) {
        judges[judge].takeIn(book, books[book].pages);
        taken |= bit(judge);
      }
    }
    return Integer.bitCount(taken);
  }

  private int lightestWithout(int taken, int author) {
    int lightest = NONE;
    for (int j = 0; j < judgeCount; j++) {
      if (!has(taken, j) && !judges[j].isAgainst(author)
          && (lightest == NONE || judges[j].cratePages < judges[lightest].cratePages)) {
        lightest = j;
      }
    }
    return lightest;
  }

  /** Answers how many BOOKS were read to their end. */
  private int readForDay() {
    int finished = 0;
    if (phase == READING) {
      for (int j = 0; j < judgeCount; j++) {
        finished += judges[j].readForDay(books);
      }
    }
    return finished;
  }

  private boolean areCratesRead() {
    for (int j = 0; j < judgeCount; j++) {
      if (judges[j].pagesLeft() > 0) {
        return false;
      }
    }
    return true;
  }

  // ---- sales

  private int askedInDay(int book) {
    if (book == winner || book == formerWinner) {
      return 90;
    }
    if (has(shortSet, book)) {
      return 20;
    }
    return has(longSet, book) ? 5 : 1;
  }

  /** Nothing is printed and no list is made within the days, so they sell as one. */
  private void sellFor(int days) {
    for (int b = 0; b < bookCount; b++) {
      int sold = books[b].sell(askedInDay(b) * days);
      houses[books[b].house].coins += sold;
    }
  }

  private int soldEver() {
    int sold = 0;
    for (int b = 0; b < bookCount; b++) {
      sold += books[b].sold;
    }
    return sold;
  }

  private int missedEver() {
    int missed = 0;
    for (int b = 0; b < bookCount; b++) {
      missed += books[b].missed;
    }
    return missed;
  }

  // ---- marks, points and lists

  private boolean isFairMark(int judge, int book) {
    return judges[judge].marks[book] != NONE && !judges[judge].isAgainst(books[book].author);
  }

  private int fairMarksOf(int book) {
    int count = 0;
    for (int j = 0; j < judgeCount; j++) {
      if (isFairMark(j, book)) {
        count++;
      }
    }
    return count;
  }

  private int scoreOf(int book) {
    int sum = 0;
    int count = 0;
    for (int j = 0; j < judgeCount; j++) {
      if (isFairMark(j, book)) {
        sum += 10 * judges[j].marks[book] - judges[j].meanOfTenfoldMarks();
        count++;
      }
    }
    return count == 0 ? 0 : Math.floorDiv(sum, count) + 500;
  }

  private int pointsOf(int book) {
    int sum = 0;
    for (int j = 0; j < judgeCount; j++) {
      if (!judges[j].isAgainst(books[book].author)) {
        sum += judges[j].points[book];
      }
    }
    return sum;
  }

  private int giversTo(int book) {
    int count = 0;
    for (int j = 0; j < judgeCount; j++) {
      if (judges[j].points[book] > 0 && !judges[j].isAgainst(books[book].author)) {
        count++;
      }
    }
    return count;
  }

  private int standingOf(int book) {
    if (book == winner) {
      return 3;
    }
    if (has(shortSet, book)) {
      return 2;
    }
    return has(longSet, book) ? 1 : 0;
  }

  private int fairJudgesOf(int author) {
    int count = 0;
    for (int j = 0; j < judgeCount; j++) {
      if (!judges[j].isAgainst(author)) {
        count++;
      }
    }
    return count;
  }

  private boolean hasMarksEnough(int book) {
    int marks = fairMarksOf(book);
    return marks >= 2 || marks == 1 && fairJudgesOf(books[book].author) == 1;
  }

  private void fillLongList(int many) {
    int left = longListable();
    for (int turn = 0; turn < MOST_BOOKS && Integer.bitCount(longSet) < many; turn++) {
      int best = bestOf(left);
      if (best == NONE) {
        return;
      }
      left &= ~bit(best);
      if (countOfHouse(books[best].house, longSet) < MOST_OF_HOUSE_ON_LONGLIST) {
        longSet |= bit(best);
      }
    }
  }

  private int longListable() {
    int set = 0;
    for (int b = 0; b < bookCount; b++) {
      if (isEntered(b) && hasMarksEnough(b)) {
        set |= bit(b);
      }
    }
    return set;
  }

  private void fillShortList(int many) {
    for (int turn = 0; turn < many; turn++) {
      int best = bestOf(longSet & ~shortSet);
      if (best == NONE) {
        return;
      }
      shortSet |= bit(best);
    }
  }

  private int bestOf(int set) {
    int best = NONE;
    for (int b = 0; b < bookCount; b++) {
      if (has(set, b) && (best == NONE || isBetter(b, best))) {
        best = b;
      }
    }
    return best;
  }

  /** POINTS come first. Nobody has any ahead of the longlist, so that one goes by SCORES alone. */
  private boolean isBetter(int book, int other) {
    int byPoints = Integer.compare(pointsOf(book), pointsOf(other));
    if (byPoints != 0) {
      return byPoints > 0;
    }
    int byGivers = Integer.compare(giversTo(book), giversTo(other));
    if (byGivers != 0) {
      return byGivers > 0;
    }
    return scoreOf(book) > scoreOf(other);
  }

  // ---- orders

  private boolean isOrder(int order) {
    int size = Integer.bitCount(shortSet);
    int seen = 0;
    int rest = order;
    for (int k = 0; k < size; k++) {
      int place = rest % 10;
      if (!isWithin(place, 1, size) || has(seen, place)) {
        return false;
      }
      seen |= bit(place);
      rest /= 10;
    }
    return size > 0 && rest == 0;
  }

  private void takeOrder(Judge judge, int order) {
    int size = Math.min(MOST_ON_SHORTLIST, Integer.bitCount(shortSet));
    int rest = order;
    for (int k = size - 1; k >= 0; k--) {
      judge.ranked[k] = bookAtPlace(rest % 10);
      rest /= 10;
    }
    judge.rankedCount = size;
  }

  private int bookAtPlace(int place) {
    int passed = 0;
    for (int b = 0; b < bookCount; b++) {
      if (has(shortSet, b)) {
        passed++;
        if (passed == place) {
          return b;
        }
      }
    }
    return NONE;
  }

  private int orderCount() {
    int count = 0;
    for (int j = 0; j < judgeCount; j++) {
      if (judges[j].hasOrder()) {
        count++;
      }
    }
    return count;
  }

  /** The BOOKS that are not by an AUTHOR in CONFLICT with the JUDGE. */
  private int openTo(Judge judge) {
    int set = 0;
    for (int b = 0; b < bookCount; b++) {
      if (!judge.isAgainst(books[b].author)) {
        set |= bit(b);
      }
    }
    return set;
  }

  // ---- counting

  private void crown(int book) {
    winner = book;
    if (book != NONE) {
      wonSet |= bit(book);
    }
  }

  private int winnerWithout(int booksOut, int judgesOut) {
    int left = shortSet & ~strippedSet & ~booksOut;
    int last = NONE;
    for (int round = 0; round < MOST_BOOKS && left != 0; round++) {
      int counted = countVotes(left, judgesOut);
      int chosen = aboveHalf(left, counted);
      if (chosen != NONE) {
        return chosen;
      }
      last = weakestOf(left);
      left &= ~bit(last);
    }
    return last;
  }

  /** Answers how many ORDERS are for some BOOK. */
  private int countVotes(int left, int judgesOut) {
    for (int b = 0; b < MOST_BOOKS; b++) {
      votes[b] = 0;
    }
    int counted = 0;
    for (int j = 0; j < judgeCount; j++) {
      int chosen = has(judgesOut, j) ? NONE : judges[j].firstIn(left & openTo(judges[j]));
      if (chosen != NONE) {
        votes[chosen]++;
        counted++;
      }
    }
    return counted;
  }

  private int aboveHalf(int left, int counted) {
    for (int b = 0; b < bookCount; b++) {
      if (has(left, b) && 2 * votes[b] > counted) {
        return b;
      }
    }
    return NONE;
  }

  private int weakestOf(int left) {
    int weakest = NONE;
    for (int b = 0; b < bookCount; b++) {
      if (has(left, b) && (weakest == NONE || votes[b] < votes[weakest]
          || votes[b] == votes[weakest] && scoreOf(b) <= scoreOf(weakest))) {
        weakest = b;
      }
    }
    return weakest;
  }

  private boolean isAheadOfRest(int book) {
    for (int b = 0; b < bookCount; b++) {
      if (b != book && has(shortSet, b) && leadOver(book, b) <= 0) {
        return false;
      }
    }
    return true;
  }

  private int leadOver(int book, int other) {
    int pair = bit(book) | bit(other);
    int lead = 0;
    for (int j = 0; j < judgeCount; j++) {
      if (judges[j].hasOrder() && (openTo(judges[j]) & pair) == pair) {
        lead += judges[j].firstIn(pair) == book ? 1 : -1;
      }
    }
    return lead;
  }

  private static final class House {
    int coins = 100;
    int quotaUsed;
  }

  private static final class Rules {
    int forms = 7;
    int least = 100;
    int most = 800;
    int fee = 10;

    void set(int newForms, int newLeast, int newMost, int newFee) {
      forms = newForms;
      least = newLeast;
      most = newMost;
      fee = newFee;
    }

    boolean admit(int form, int pages) {
      return has(forms, form) && isWithin(pages, least, most);
    }
  }

  private static final class Book {
    int house;
    int author;
    int form;
    int pages;
    int merit;
    int flavour;
    int toldYear;
    int enteredYear = NONE;
    int stock;
    int sold;
    int missed;

    void describe(int itsHouse, int itsAuthor, int itsForm, int itsPages, int itsMerit,
        int itsFlavour) {
      house = itsHouse;
      author = itsAuthor;
      form = itsForm;
      pages = itsPages;
      merit = itsMerit;
      flavour = itsFlavour;
    }

    /** Answers how many were sold. */
    int sell(int asked) {
      int given = Math.min(asked, stock);
      stock -= given;
      sold += given;
      missed += asked - given;
      return given;
    }
  }

  private static final class Judge {
    static final int LEAST_PAGES_IN_DAY = 10;
    /** Far above the days that 16 BOOKS of 900 PAGES take at 10 PAGES a DAY. */
    static final int MOST_DAYS_OF_READING = 10000;
    static final int TOP_MARK = 99;

    int speed;
    int taste;
    int lean;
    int conflicts;
    boolean hasCalledIn;

    /** The BOOKS as they are read, and how many PAGES are read as each of them ends. */
    final int[] crate = new int[MOST_BOOKS];
    final int[] crateEnds = new int[MOST_BOOKS];
    int crateCount;
    int cratePages;
    int booksRead;
    int pagesRead;

    final int[] marks = new int[MOST_BOOKS];
    int markSum;
    final int[] points = new int[MOST_BOOKS];
    /** The BOOKS of the ORDER, the best first; none without an ORDER. */
    final int[] ranked = new int[MOST_ON_SHORTLIST];
    int rankedCount;

    Judge() {
      for (int b = 0; b < MOST_BOOKS; b++) {
        marks[b] = NONE;
      }
    }

    void describe(int itsSpeed, int itsTaste, int itsLean) {
      speed = itsSpeed;
      taste = itsTaste;
      lean = itsLean;
    }

    void clearYear() {
      hasCalledIn = false;
      crateCount = 0;
      cratePages = 0;
      booksRead = 0;
      pagesRead = 0;
      markSum = 0;
      rankedCount = 0;
      for (int b = 0; b < MOST_BOOKS; b++) {
        marks[b] = NONE;
        points[b] = 0;
      }
    }

    boolean isAgainst(int author) {
      return (conflicts & 1 << author) != 0;
    }

    void takeIn(int book, int pages) {
      if (crateCount < MOST_BOOKS) {
        cratePages += pages;
        crate[crateCount] = book;
        crateEnds[crateCount] = cratePages;
        crateCount++;
      }
    }

    int pagesLeft() {
      return cratePages - pagesRead;
    }

    int paceAfter(int pages) {
      return Math.max(LEAST_PAGES_IN_DAY, speed - 5 * (pages / 500));
    }

    /** Answers how many BOOKS were read to their end. */
    int readForDay(Book[] books) {
      pagesRead += Math.min(paceAfter(pagesRead), pagesLeft());
      int readBefore = booksRead;
      while (booksRead < crateCount && crateEnds[booksRead] <= pagesRead) {
        int book = crate[booksRead];
        marks[book] = markFor(books[book]);
        markSum += marks[book];
        booksRead++;
      }
      return booksRead - readBefore;
    }

    int daysLeft() {
      int days = 0;
      int pages = pagesRead;
      while (pages < cratePages && days < MOST_DAYS_OF_READING) {
        pages += paceAfter(pages);
        days++;
      }
      return days;
    }

    int markFor(Book book) {
      int mark = book.merit + lean + 10 - 2 * Math.abs(taste - book.flavour);
      return Math.max(0, Math.min(TOP_MARK, mark));
    }

    int meanOfTenfoldMarks() {
      return booksRead == 0 ? 0 : 10 * markSum / booksRead;
    }

    int pointsLeft() {
      int left = POINTS_OF_A_JUDGE;
      for (int b = 0; b < MOST_BOOKS; b++) {
        left -= points[b];
      }
      return left;
    }

    boolean hasOrder() {
      return rankedCount > 0;
    }

    int firstIn(int set) {
      for (int k = 0; k < rankedCount; k++) {
        if (has(set, ranked[k])) {
          return ranked[k];
        }
      }
      return NONE;
    }
  }
}
