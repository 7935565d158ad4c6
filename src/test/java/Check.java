import java.util.HashSet;
import java.util.Set;

/** Counts the answers that are not as due; each test class runs in a machine of its own. */
final class Check {
  interface Call {
    void make();
  }

  private static int made = 0;
  private static int wrong = 0;
  private static final Set<String> sentences = new HashSet<>();
  private static String sentence = "";

  private Check() {
  }

  /** The document's words with which the answers from here on stand or fall: a wrong one is told with them. */
  static void sentence(String words) {
    sentences.add(words);
    sentence = " [" + words + "]";
  }

  static void due(String call, long got, long want) {
    made++;
    if (got != want) {
      tell(call + " answered " + got + ", due is " + want);
    }
  }

  static void due(String call, boolean got, boolean want) {
    due(call, got ? 1 : 0, want ? 1 : 0);
  }

  static void noSuch(String call, Call made) {
    refuses(call, IndexOutOfBoundsException.class, made);
  }

  static void outOfRange(String call, Call made) {
    refuses(call, IllegalArgumentException.class, made);
  }

  static void notNow(String call, Call made) {
    refuses(call, IllegalStateException.class, made);
  }

  // The class itself is asked for, for the machine's own exceptions stand below the promised ones.
  static void refuses(String call, Class<? extends RuntimeException> kind, Call refused) {
    made++;
    try {
      refused.make();
      tell(call + " answered, due is " + kind.getName());
    } catch (RuntimeException e) {
      if (e.getClass() != kind) {
        tell(call + " threw " + e.getClass().getName() + ", due is " + kind.getName());
      }
    }
  }

  static void answers(String call, Call asked) {
    made++;
    try {
      asked.make();
    } catch (RuntimeException e) {
      tell(call + " threw " + e.getClass().getName() + ", due is an answer");
    }
  }

  static void finish(String name) {
    String of = sentences.isEmpty() ? "" : sentences.size() + " sentences, ";
    System.out.println(name + ": " + of + made + " answers, " + wrong + " not as due");
    if (wrong != 0 || made == 0) {
      System.exit(1);
    }
  }

  private static void tell(String line) {
    wrong++;
    if (wrong <= 50) {
      System.out.println(line + sentence);
    }
  }
}
