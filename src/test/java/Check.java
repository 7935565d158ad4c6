/** Counts the answers that are not as due; each test class runs in a machine of its own. */
final class Check {
  interface Call {
    void make();
  }

  private static int made = 0;
  private static int wrong = 0;

  private Check() {
  }

  static void due(String call, long got, long want) {
    made++;
    if (got != want) {
      tell(call + " answered " + got + ", due is " + want);
    }
  }

  static void due(String call, boolean got, boolean want) {
    due(call, got ? 1 : 0, want ? 1 : 0);
  }

  static void noSuch(String call, Call made) {
    refuses(call, IndexOutOfBoundsException.class, made);
  }

  static void outOfRange(String call, Call made) {
    refuses(call, IllegalArgumentException.class, made);
  }

  static void notNow(String call, Call made) {
    refuses(call, IllegalStateException.class, made);
  }

  static void finish(String name) {
    System.out.println(name + ": " + made + " answers, " + wrong + " not as due");
    if (wrong != 0 || made == 0) {
      System.exit(1);
    }
  }

  // The class itself is asked for, for the machine's own exceptions stand below the promised ones.
  private static void refuses(String call, Class<? extends RuntimeException> kind, Call refused) {
    made++;
    try {
      refused.make();
      tell(call + " answered, due is " + kind.getName());
    } catch (RuntimeException e) {
      if (e.getClass() != kind) {
        tell(call + " threw " + e.getClass().getName() + ", due is " + kind.getName());
      }
    }
  }

  private static void tell(String line) {
    wrong++;
    if (wrong <= 50) {
      System.out.println(line);
    }
  }
}
