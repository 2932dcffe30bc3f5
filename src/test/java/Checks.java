/** Counts the answers that are not as due; each test ends with exit code 1 if there was one. */
final class Checks {
  private static final int MOST_SHOWN = 40;
  private int wrong;

  void due(String what, long got, long want) {
    if (got != want) {
      fail(what + " answered " + got + ", due is " + want);
    }
  }

  void fail(String text) {
    wrong++;
    if (wrong <= MOST_SHOWN) {
      System.out.println(text);
    }
  }

  int wrong() {
    return wrong;
  }

  void end() {
    System.out.println(wrong == 0 ? "all answers are as due" : wrong + " answers are not as due");
    if (wrong != 0) {
      System.exit(1);
    }
  }
}
