/** What the tests share: each wrong answer is printed, and end() leaves with code 1 if there was one. */
final class Check {
  private static int done = 0;
  private static int wrong = 0;

  private Check() {
  }

  static void same(String what, long got, long due) {
    report(got == due, what + " answered " + got + ", due is " + due);
  }

  static void sameReal(String what, double got, double due) {
    report(got == due, what + " answered " + got + ", due is " + due);
  }

  static void yes(String what, boolean got) {
    report(got, what + " answered false, due is true");
  }

  static void no(String what, boolean got) {
    report(!got, what + " answered true, due is false");
  }

  static void sameText(String what, String got, String due) {
    report(got.equals(due), what + " answered\n  " + got + "\ndue is\n  " + due);
  }

  /** The very class is asked for: a subclass would be one that the machine throws. */
  static void fails(String what, Class<? extends RuntimeException> due, Runnable call) {
    String got = "nothing";
    try {
      call.run();
    } catch (RuntimeException e) {
      got = e.getClass().getName();
    }
    report(got.equals(due.getName()), what + " threw " + got + ", due is " + due.getName());
  }

  private static void report(boolean right, String text) {
    done++;
    if (!right) {
      wrong++;
      System.out.println(text);
    }
  }

  static void end(String name) {
    System.out.println(name + ": " + done + " checks, " + wrong + " wrong");
    if (wrong != 0) {
      System.exit(1);
    }
  }
}
