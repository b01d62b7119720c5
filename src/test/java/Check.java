import java.util.List;

/** Counts the answers of one test program that are as due, and tells each one that is not. */
final class Check {
  interface Call {
    Object answer();
  }

  /** Makes a prize in the state that a case begins with, the same one each time. */
  interface Scene {
    PrizeHouse make();
  }

  interface CallOn {
    Object answer(PrizeHouse prize);
  }

  interface CallWith {
    Object answer(PrizeHouse prize, int value);
  }

  private final String test;
  private int right;
  private int wrong;
  private String part = "";

  Check(String test) {
    this.test = test;
  }

  /** Names what the next checks are about. */
  void part(String name) {
    part = name;
  }

  void is(String call, long got, long due) {
    count(got == due, call + " answered " + got + ", due is " + due);
  }

  void isDouble(String call, double got, double due) {
    count(got == due, call + " answered " + got + ", due is " + due);
  }

  void holds(String what, boolean asDue, String otherwise) {
    count(asDue, what + " " + otherwise);
  }

  /** Wants the very class: what the machine throws by itself is always of another one. */
  void fails(String call, Class<? extends RuntimeException> due, Call run) {
    String got;
    boolean asDue = false;
    try {
      got = "answered " + run.answer();
    } catch (RuntimeException e) {
      asDue = e.getClass() == due;
      got = "threw " + e.getClass().getName();
    }
    count(asDue, call + " " + got + ", due is to throw " + due.getName());
  }

  /** As fails, and the object has to stand as before, as far as its digest tells. */
  void refuses(PrizeHouse prize, String call, Class<? extends RuntimeException> due, Call run) {
    long before = prize.digest();
    fails(call, due, run);
    is(call + " left the digest", prize.digest(), before);
  }

  /** As fails, and nothing is changed by it, for all that is asked later on. */
  void refusesIn(Scene scene, String call, Class<? extends RuntimeException> due, CallOn run) {
    PrizeHouse prize = scene.make();
    fails(call, due, () -> run.answer(prize));
    leavesIn(scene, call, run);
  }

  /** As refusesIn, of a call that is refused by its answer. */
  void declinesIn(Scene scene, String call, int due, CallOn run) {
    is(call, (int) run.answer(scene.make()), due);
    leavesIn(scene, call, run);
  }

  /** The prize goes on as its twin that never met the call. */
  void leavesIn(Scene scene, String call, CallOn run) {
    for (boolean callsIn : new boolean[] {false, true}) {
      PrizeHouse prize = scene.make();
      try {
        run.answer(prize);
      } catch (RuntimeException e) {
        // What it is to throw is checked elsewhere.
      }
      same(call, Future.of(prize, callsIn), Future.of(scene.make(), callsIn));
    }
  }

  void takesIn(Scene scene, String call, CallOn run) {
    String story = call + " was not taken";
    boolean asDue = false;
    try {
      asDue = (int) run.answer(scene.make()) >= 0;
    } catch (RuntimeException e) {
      story += ", it threw " + e.getClass().getName();
    }
    count(asDue, story);
  }

  /** The last values that are allowed, the first that are not, on both sides, and the farthest. */
  void range(Scene scene, String value, int least, int most,
      Class<? extends RuntimeException> due, CallWith call) {
    for (int v : new int[] {least, most}) {
      takesIn(scene, value + " " + v, p -> call.answer(p, v));
    }
    for (int v : new int[] {least - 1, most + 1, Integer.MIN_VALUE, Integer.MAX_VALUE}) {
      refusesIn(scene, value + " " + v, due, p -> call.answer(p, v));
    }
  }

  private void same(String call, List<String> got, List<String> due) {
    int same = 0;
    while (same < due.size() && same < got.size() && got.get(same).equals(due.get(same))) {
      same++;
    }
    count(same == due.size() && same == got.size(), call + " changed something: later "
        + (same < got.size() ? got.get(same) : "nothing") + ", due is "
        + (same < due.size() ? due.get(same) : "nothing"));
  }

  private void count(boolean asDue, String story) {
    if (asDue) {
      right++;
    } else {
      wrong++;
      if (wrong <= 20) {
        System.out.println(test + ", " + part + ": " + story);
      }
    }
  }

  /** Ends the program, with exit code 1 if an answer was wrong. */
  void close() {
    System.out.println(test + ": " + right + " answers as due, " + wrong + " not");
    System.exit(wrong == 0 && right > 0 ? 0 : 1);
  }
}
