import java.util.HashSet;
import java.util.Set;

/** Counts answers that are not the ones that are due, and tells where. */
final class Due {
  private static int asked = 0;
  private static int wrong = 0;
  private static String about = "";
  private static final Set<Long> wanted = new HashSet<>();

  private Due() {
  }

  /** What the next answers hold: it is told with those that are wrong. */
  static void about(String what) {
    about = what;
    wanted.clear();
  }

  /** The answer got, and the one that is due. */
  static void is(long got, long want) {
    asked++;
    wanted.add(want);
    if (got != want) {
      wrong++;
      System.out.println(place() + ": answered " + got + ", due is " + want + tail());
    }
  }

  /** A thing that is due to be so. */
  static void holds(boolean is, String what) {
    asked++;
    if (!is) {
      wrong++;
      System.out.println(place() + ": not so: " + what + tail());
    }
  }

  private static String place() {
    return StackWalker.getInstance().walk(frames -> frames
        .filter(frame -> !frame.getClassName().equals("Due"))
        .findFirst()
        .map(frame -> frame.getFileName() + ":" + frame.getLineNumber())
        .orElse("?"));
  }

  private static String tail() {
    return about.isEmpty() ? "" : " -- " + about;
  }

  static int asked() {
    return asked;
  }

  static int wrong() {
    return wrong;
  }

  /** The answers that were due since the last call of about. */
  static Set<Long> wanted() {
    return Set.copyOf(wanted);
  }

  /** Ends a test: with exit code 1, if an answer was wrong or none was asked for. */
  static void end() {
    System.out.println(asked + " answers, " + wrong + " not as due");
    if (wrong != 0 || asked == 0) {
      System.exit(1);
    }
  }
}
