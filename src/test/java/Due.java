/** Counts answers that are not the ones that are due, and tells where. */
final class Due {
  private static int asked = 0;
  private static int wrong = 0;

  private Due() {
  }

  /** The answer got, and the one that is due. */
  static void is(long got, long want) {
    asked++;
    if (got != want) {
      wrong++;
      System.out.println(place() + ": answered " + got + ", due is " + want);
    }
  }

  /** A thing that is due to be so. */
  static void holds(boolean is, String what) {
    asked++;
    if (!is) {
      wrong++;
      System.out.println(place() + ": not so: " + what);
    }
  }

  private static String place() {
    return StackWalker.getInstance().walk(frames -> frames
        .filter(frame -> !frame.getClassName().equals("Due"))
        .findFirst()
        .map(frame -> frame.getFileName() + ":" + frame.getLineNumber())
        .orElse("?"));
  }

  static int wrong() {
    return wrong;
  }

  /** Ends a test: with exit code 1, if an answer was wrong or none was asked for. */
  static void end() {
    System.out.println(asked + " answers, " + wrong + " not as due");
    if (wrong != 0 || asked == 0) {
      System.exit(1);
    }
  }
}
