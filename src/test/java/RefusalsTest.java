import java.util.ArrayList;
import java.util.Arrays;
import java.util.EnumMap;
import java.util.List;
import java.util.Map;

/**
 * Every call of the face with the last argument inside each range and the first one outside it, at
 * both ends and all of them crossed, at each stage of a show: the exception that is listed first is
 * thrown, and the object answers after it as one that was not asked.
 */
final class RefusalsTest {
  private static final int FAR = Integer.MAX_VALUE;
  private static final int NEAR = Integer.MIN_VALUE;

  private static final String PLAYED = "the set is played";
  private static final Refusal NEVER = a -> false;

  /** So many calls stand beside those of a stage and a look below the 512 of an object. */
  private static final int CALLS_AT_ONCE = 150;

  private interface Call {
    void make(BeatPages x, int[] a);
  }

  private interface Refusal {
    boolean comes(int[] a);
  }

  private record Argument(boolean isIndex, int[] inside, int[] outside) {
    boolean refuses(int value) {
      return Arrays.stream(outside).anyMatch(one -> one == value);
    }
  }

  /** What the document says behind the names of the exceptions, by their order; none of one that is not listed. */
  private record Throws(String ifNoSuch, String ifOutOfRange, String ifNotNow) {
  }

  private record Method(String name, Call call, Refusal notNow, Throws said, Argument... arguments) {
  }

  private record Reason(Class<? extends RuntimeException> kind, String said) {
  }

  /** A call that is to be refused, with all reasons for it by the order of the throws clause. */
  private record Refused(String told, List<Reason> reasons, Call call, int[] arguments) {
    String sentence() {
      return reasons.size() > 1
          ? "If several exceptions of a throws clause apply, the one that is listed first is thrown."
          : "Throws `" + reasons.get(0).kind().getSimpleName() + "` if " + reasons.get(0).said();
    }
  }

  private final Stage stage;
  private final Map<Look, List<String>> untouched = new EnumMap<>(Look.class);
  private final List<Refused> refused = new ArrayList<>();

  private RefusalsTest(Stage stage) {
    this.stage = stage;
    for (Look look : Look.values()) {
      untouched.put(look, look.over(stage.make()));
    }
  }

  public static void main(String[] args) {
    for (Stage stage : Stage.values()) {
      RefusalsTest test = new RefusalsTest(stage);
      test.stageIsAsTold();
      for (Method method : test.methods()) {
        test.cross(method, new int[method.arguments().length], 0);
        test.nothingChanged(method.name());
      }
    }
    Check.finish("RefusalsTest");
  }

  private static Argument index(int first, int last) {
    return new Argument(true, edges(first, last), new int[] {first - 1, last + 1, NEAR, FAR});
  }

  private static Argument range(int first, int last) {
    return new Argument(false, edges(first, last), new int[] {first - 1, last + 1, NEAR, FAR});
  }

  private static Argument one(int value) {
    return new Argument(true, new int[] {value}, new int[0]);
  }

  private static int[] edges(int first, int last) {
    return last < first ? new int[0] : new int[] {first, last};
  }

  private List<Method> methods() {
    List<Method> all = new ArrayList<>();
    addCallsOnSamples(all);
    addCallsOnPatterns(all);
    addCallsOnSongs(all);
    addCallsOnEntries(all);
    addCallsOnTheSet(all);
    return all;
  }

  private void addCallsOnPatterns(List<Method> all) {
    Refusal played = a -> stage.isPlayed();
    Argument pattern = index(0, 11);
    Argument track = index(0, 3);
    Argument sampleOrNone = index(-1, 7);
    Argument every = new Argument(false, new int[] {0, 2, 8}, new int[] {-1, 1, 9, NEAR, FAR});
    Throws ofSteps = new Throws(
        "there is no such pattern, track or step, or sample is neither a sample nor NONE", null, PLAYED);
    all.add(new Method("setStep", (x, a) -> x.setStep(a[0], a[1], a[2], a[3]), played, ofSteps,
        pattern, track, index(0, 15), sampleOrNone));
    all.add(new Method("setFill", (x, a) -> x.setFill(a[0], a[1], a[2], a[3]), played, ofSteps,
        pattern, track, index(12, 15), sampleOrNone));
    all.add(new Method("setFeel", (x, a) -> x.setFeel(a[0], a[1], a[2]), played,
        new Throws("there is no such pattern", "swing or every is out of range", PLAYED), pattern, range(0, 6), every));
    all.add(new Method("freeze", (x, a) -> x.freeze(a[0], a[1] == 1), NEVER,
        new Throws("there is no such pattern", null, null), pattern,
        new Argument(false, new int[] {0, 1}, new int[0])));
  }

  private void addCallsOnSamples(List<Method> all) {
    Argument sample = index(0, 7);
    Throws noSuch = new Throws("there is no such sample", null, null);
    all.add(new Method("setSize", (x, a) -> x.setSize(a[0], a[1]), a -> stage.isPlayed(),
        new Throws("there is no such sample", "pages is out of range", PLAYED), sample, range(1, 6)));
    all.add(new Method("tune", (x, a) -> x.tune(a[0], a[1]), NEVER,
        new Throws("there is no such sample", "tune is out of range", null), sample, range(-12, 12)));
    all.add(new Method("loaded", (x, a) -> x.loaded(a[0]), NEVER, noSuch, sample));
    all.add(new Method("nextUse", (x, a) -> x.nextUse(a[0]), NEVER, noSuch, sample));
  }

  private void addCallsOnSongs(List<Method> all) {
    Argument song = index(0, 5);
    Throws noSuch = new Throws("there is no such song", null, null);
    all.add(new Method("addEntry", (x, a) -> x.addEntry(a[0], a[1], a[2]),
        a -> stage.isPlayed() || stage.countEntries(a[0]) == 8,
        new Throws("there is no such song or pattern", "repeats is out of range", "it has 8, or the set is played"),
        song, index(0, 11), range(1, 4)));
    all.add(new Method("bars", (x, a) -> x.bars(a[0]), NEVER, noSuch, song));
    all.add(new Method("beats", (x, a) -> x.beats(a[0]), NEVER, noSuch, song));
    all.add(new Method("beatsByTicks", (x, a) -> x.beatsByTicks(a[0]), NEVER, noSuch, song));
    all.add(new Method("addToSet", (x, a) -> x.addToSet(a[0]), a -> stage.isPlayed() || stage.isFull(),
        new Throws("there is no such song", null, "it has 8, or the set is played"), song));
  }

  /** Of each song, its own entries and bars; of no song, any. */
  private void addCallsOnEntries(List<Method> all) {
    Refusal played = a -> stage.isPlayed();
    Call jump = (x, a) -> x.jump(a[0], a[1], a[2], a[3]);
    Call barAt = (x, a) -> x.barAt(a[0], a[1]);
    Throws ofJump = new Throws("there is no such song, entry or to", "times is out of range", PLAYED);
    Throws ofBarAt = new Throws("there is no such song or bar", null, null);
    for (int song = 0; song < 6; song++) {
      Argument entry = index(0, stage.countEntries(song) - 1);
      Argument bar = index(0, stage.countBars(song) - 1);
      all.add(new Method("jump", jump, played, ofJump, one(song), entry, entry, range(0, 3)));
      all.add(new Method("barAt", barAt, NEVER, ofBarAt, one(song), bar));
    }
    Argument noSong = new Argument(true, new int[0], new int[] {-1, 6, NEAR, FAR});
    Argument any = new Argument(true, new int[] {0}, new int[] {-1, 8, NEAR, FAR});
    all.add(new Method("jump", jump, played, ofJump, noSong, any, any, range(0, 3)));
    all.add(new Method("barAt", barAt, NEVER, ofBarAt, noSong, any));
  }

  private void addCallsOnTheSet(List<Method> all) {
    Refusal notPlayed = a -> !stage.isPlayed();
    all.add(new Method("clearSet", (x, a) -> x.clearSet(), a -> stage.isPlayed(), new Throws(null, null, PLAYED)));
    all.add(new Method("start", (x, a) -> x.start(), a -> !stage.canStart(),
        new Throws(null, null, "it is played, is empty, or one of its songs has no bar")));
    all.add(new Method("tick", (x, a) -> x.tick(a[0]), notPlayed,
        new Throws(null, "ticks is out of range", "the set is not played"), range(1, 2000)));
    all.add(new Method("skip", (x, a) -> x.skip(), notPlayed, new Throws(null, null, "the set is not played")));
  }

  /** What is counted on: that each song has as many bars as told, and that what is told to be played is. */
  private void stageIsAsTold() {
    BeatPages x = stage.make();
    Check.due(stage + ": played", x.place() != BeatPages.NONE, stage.isPlayed());
    for (int song = 0; song < 6; song++) {
      Check.due(stage + ": bars(" + song + ")", x.bars(song), stage.countBars(song));
    }
    if (stage.isPlayed() || stage == Stage.OVER) {
      Check.due(stage + ": a page is in hand", x.inHand() >= 0, true);
      Check.due(stage + ": samples sounded", x.sounds() > 0, true);
      Check.due(stage + ": samples were missed", x.misses() > 0, true);
    }
  }

  private void cross(Method method, int[] values, int at) {
    if (at == values.length) {
      sort(method, values.clone());
      return;
    }
    for (int[] side : new int[][] {method.arguments()[at].inside(), method.arguments()[at].outside()}) {
      for (int value : side) {
        values[at] = value;
        cross(method, values, at + 1);
      }
    }
  }

  private void sort(Method method, int[] values) {
    String told = stage + ": " + method.name() + Arrays.toString(values);
    List<Reason> reasons = reasons(method, values);
    if (reasons.isEmpty()) {
      Check.sentence("an IllegalArgumentException if another argument is out of its range");
      Check.answers(told, () -> method.call().make(stage.make(), values));
    } else {
      refused.add(new Refused(told, reasons, method.call(), values));
    }
  }

  private static List<Reason> reasons(Method method, int[] values) {
    List<Reason> all = new ArrayList<>();
    if (isOutside(method, values, true)) {
      all.add(new Reason(IndexOutOfBoundsException.class, method.said().ifNoSuch()));
    }
    if (isOutside(method, values, false)) {
      all.add(new Reason(IllegalArgumentException.class, method.said().ifOutOfRange()));
    }
    if (method.notNow().comes(values)) {
      all.add(new Reason(IllegalStateException.class, method.said().ifNotNow()));
    }
    return all;
  }

  private static boolean isOutside(Method method, int[] values, boolean isIndex) {
    for (int at = 0; at < values.length; at++) {
      Argument argument = method.arguments()[at];
      if (argument.isIndex() == isIndex && argument.refuses(values[at])) {
        return true;
      }
    }
    return false;
  }

  private void nothingChanged(String name) {
    for (int from = 0; from < refused.size(); from += CALLS_AT_ONCE) {
      List<Refused> some = refused.subList(from, Math.min(from + CALLS_AT_ONCE, refused.size()));
      for (Look look : Look.values()) {
        BeatPages x = askedInVain(some);
        Check.sentence("A call that throws an exception changes nothing.");
        compare(stage + " after " + name + " was refused: ", untouched.get(look), look.over(x));
      }
    }
    refused.clear();
  }

  private BeatPages askedInVain(List<Refused> calls) {
    BeatPages x = stage.make();
    for (Refused one : calls) {
      Check.sentence(one.sentence());
      Check.refuses(one.told(), one.reasons().get(0).kind(), () -> one.call().make(x, one.arguments()));
    }
    return x;
  }

  private static void compare(String when, List<String> before, List<String> after) {
    Check.due(when + "answers", after.size(), before.size());
    for (int at = 0; at < Math.min(before.size(), after.size()); at++) {
      Check.due(when + after.get(at) + ", before it " + before.get(at), after.get(at).equals(before.get(at)), true);
    }
  }
}
