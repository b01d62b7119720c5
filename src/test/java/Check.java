/** Counts the answers of one test program that are as due, and tells each one that is not. */
final class Check {
  interface Call {
    Object answer();
  }

  private final String test;
  private int right;
  private int wrong;
  private String part = "";

  Check(String test) {
    this.test = test;
  }

  /** Names what the next checks are about. */
  void part(String name) {
    part = name;
  }

  void is(String call, long got, long due) {
    count(got == due, call + " answered " + got + ", due is " + due);
  }

  void isDouble(String call, double got, double due) {
    count(got == due, call + " answered " + got + ", due is " + due);
  }

  /** Wants the very class: what the machine throws by itself is always of another one. */
  void fails(String call, Class<? extends RuntimeException> due, Call run) {
    String got;
    boolean asDue = false;
    try {
      got = "answered " + run.answer();
    } catch (RuntimeException e) {
      asDue = e.getClass() == due;
      got = "threw " + e.getClass().getName();
    }
    count(asDue, call + " " + got + ", due is to throw " + due.getName());
  }

  /** As fails, and the object has to stand as before, as far as its digest tells. */
  void refuses(PrizeHouse prize, String call, Class<? extends RuntimeException> due, Call run) {
    long before = prize.digest();
    fails(call, due, run);
    is(call + " left the digest", prize.digest(), before);
  }

  private void count(boolean asDue, String story) {
    if (asDue) {
      right++;
    } else {
      wrong++;
      if (wrong <= 20) {
        System.out.println(test + ", " + part + ": " + story);
      }
    }
  }

  /** Ends the program, with exit code 1 if an answer was wrong. */
  void close() {
    System.out.println(test + ": " + right + " answers as due, " + wrong + " not");
    System.exit(wrong == 0 && right > 0 ? 0 : 1);
  }
}
