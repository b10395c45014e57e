/** Compares answers with those that are due, and ends a test. */
final class Due {
  private int wrong = 0;
  private int asked = 0;

  void is(String call, long got, long want) {
    asked++;
    if (got != want) {
      wrong++;
      System.out.println(call + " answered " + got + ", due is " + want);
    }
  }

  void is(String call, String got, String want) {
    asked++;
    if (!got.equals(want)) {
      wrong++;
      System.out.println(call + " answered\n  " + got + ", due is\n  " + want);
    }
  }

  void holds(String what, boolean isSo) {
    asked++;
    if (!isSo) {
      wrong++;
      System.out.println(what + " does not hold");
    }
  }

  void end() {
    System.out.println(wrong == 0 ? asked + " answers are as due" : wrong + " of " + asked + " are wrong");
    if (wrong != 0 || asked == 0) {
      System.exit(1);
    }
  }
}
