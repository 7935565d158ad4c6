/**
 * Long runs of calls, each answer compared with the plain machine's. The numbers that choose the
 * calls come from a fixed sequence, so that every run of the test makes the same calls.
 */
final class RandomRunsTest {
  private static final int RUNS = 150;
  private static final int CALLS = 512;

  private static long seed = 20261119L;

  private final BeatPages real = new BeatPages();
  private final PlainMachine plain = new PlainMachine();
  private final int run;
  private int made = 0;

  private RandomRunsTest(int run) {
    this.run = run;
  }

  private interface Answer {
    int give();
  }

  public static void main(String[] args) {
    for (int run = 0; run < RUNS; run++) {
      new RandomRunsTest(run).play();
    }
    Check.finish("RandomRunsTest");
  }

  private static int below(int bound) {
    seed = seed * 6364136223846793005L + 1442695040888963407L;
    return (int) ((seed >>> 33) % bound);
  }

  private static int from(int lowest, int highest) {
    return lowest + below(highest - lowest + 1);
  }

  /** Mostly a number of the range, sometimes one at its edge or outside. */
  private static int about(int lowest, int highest) {
    switch (below(60)) {
      case 0: return lowest - 1;
      case 1: return highest + 1;
      case 2: return lowest;
      case 3: return highest;
      case 4: return below(4) == 0 ? Integer.MIN_VALUE : lowest;
      case 5: return below(4) == 0 ? Integer.MAX_VALUE : highest;
      default: return from(lowest, highest);
    }
  }

  private void play() {
    prepare();
    while (made < CALLS - 16) {
      change();
      look();
    }
    lookAtAll();
  }

  /** Steps thick or thin, sizes small or large, songs short or long. */
  private void prepare() {
    int steps = from(5, 150);
    int patterns = from(1, 12);
    int samples = from(2, 8);
    int largest = from(1, 6);
    for (int i = 0; i < samples; i++) {
      setSize(i, from(Math.max(1, largest - 2), largest));
    }
    for (int i = 0; i < steps; i++) {
      if (below(6) == 0) {
        setFill(below(patterns), below(4), from(12, 15), below(samples));
      } else {
        setStep(below(patterns), below(4), below(16), below(samples));
      }
    }
    for (int i = 0; i < patterns; i++) {
      setFeel(i, from(0, 6), below(4) == 0 ? 0 : from(2, below(2) == 0 ? 3 : 8));
    }
    int entries = from(3, 20);
    int songs = from(1, 6);
    for (int i = 0; i < entries; i++) {
      addEntry(below(songs), below(patterns), from(1, 4));
      if (below(2) == 0) {
        jump(below(songs), below(4), below(4), from(0, 3));
      }
    }
    for (int song = 0; song < songs; song++) {
      addToSet(song);
    }
  }

  private void change() {
    boolean isPlayed = plain.place() != -1;
    int kind = below(100);
    if (kind < 4) {
      tune(about(0, 7), about(-12, 12));
    } else if (kind < 8) {
      freeze(about(0, 11), below(2) == 0);
    } else if (isPlayed ? kind < 70 : kind < 12) {
      tick(below(3) == 0 ? about(1, 2000) : below(2) == 0 ? about(1, 192) : about(1, 9));
    } else if (isPlayed ? kind < 76 : kind < 14) {
      skip();
    } else if (kind < 80) {
      start();
    } else {
      edit();
    }
  }

  private void edit() {
    switch (below(9)) {
      case 0: setSize(about(0, 7), about(1, 6)); break;
      case 1: setStep(about(0, 11), about(0, 3), about(0, 15), about(-1, 7)); break;
      case 2: setFill(about(0, 11), about(0, 3), about(12, 15), about(-1, 7)); break;
      case 3: setFeel(about(0, 11), about(0, 6), about(0, 8)); break;
      case 4: addEntry(about(0, 5), about(0, 11), about(1, 4)); break;
      case 5: case 6: jump(about(0, 5), about(0, 4), about(0, 4), about(0, 3)); break;
      case 7: addToSet(about(0, 5)); break;
      default: if (below(4) == 0) clearSet();
    }
  }

  private void look() {
    switch (below(7)) {
      case 0: songAnswers(about(0, 5)); break;
      case 1: place(); break;
      case 2: inHand(); soundNumber(); break;
      case 3: sounds(); misses(); break;
      case 4: loaded(about(0, 7)); break;
      case 5: nextUse(about(0, 7)); break;
      default:
    }
  }

  private void songAnswers(int song) {
    switch (below(5)) {
      case 0: due("bars", new int[] {song}, () -> real.bars(song), plain.bars(song)); break;
      case 1: due("beats", new int[] {song}, () -> real.beats(song), plain.beats(song)); break;
      case 2: due("beatsByTicks", new int[] {song}, () -> real.beatsByTicks(song), plain.beats(song)); break;
      default:
        int bar = about(0, below(2) == 0 ? 63 : 12);
        due("barAt", new int[] {song, bar}, () -> real.barAt(song, bar), plain.barAt(song, bar));
    }
  }

  private void lookAtAll() {
    place();
    inHand();
    sounds();
    misses();
    soundNumber();
    for (int sample = 0; sample < 8; sample++) {
      loaded(sample);
    }
  }

  private void due(String name, int[] arguments, Answer answer, int want) {
    made++;
    int got;
    try {
      got = answer.give();
    } catch (RuntimeException e) {
      got = e.getClass() == IndexOutOfBoundsException.class ? PlainMachine.NO_SUCH
          : e.getClass() == IllegalArgumentException.class ? PlainMachine.OUT_OF_RANGE
          : e.getClass() == IllegalStateException.class ? PlainMachine.NOT_NOW : -9999;
    }
    Check.due("run " + run + ", call " + made + ": " + name + java.util.Arrays.toString(arguments), got, want);
  }

  private void setSize(int a, int b) {
    due("setSize", new int[] {a, b}, () -> real.setSize(a, b), plain.setSize(a, b));
  }

  private void tune(int a, int b) {
    due("tune", new int[] {a, b}, () -> real.tune(a, b), plain.tune(a, b));
  }

  private void setStep(int a, int b, int c, int d) {
    due("setStep", new int[] {a, b, c, d}, () -> real.setStep(a, b, c, d), plain.setStep(a, b, c, d));
  }

  private void setFill(int a, int b, int c, int d) {
    due("setFill", new int[] {a, b, c, d}, () -> real.setFill(a, b, c, d), plain.setFill(a, b, c, d));
  }

  private void setFeel(int a, int b, int c) {
    due("setFeel", new int[] {a, b, c}, () -> real.setFeel(a, b, c), plain.setFeel(a, b, c));
  }

  private void freeze(int a, boolean b) {
    due("freeze", new int[] {a, b ? 1 : 0}, () -> real.freeze(a, b) ? 1 : 0, plain.freeze(a, b));
  }

  private void addEntry(int a, int b, int c) {
    due("addEntry", new int[] {a, b, c}, () -> real.addEntry(a, b, c), plain.addEntry(a, b, c));
  }

  private void jump(int a, int b, int c, int d) {
    due("jump", new int[] {a, b, c, d}, () -> real.jump(a, b, c, d), plain.jump(a, b, c, d));
  }

  private void addToSet(int a) {
    due("addToSet", new int[] {a}, () -> real.addToSet(a), plain.addToSet(a));
  }

  private void clearSet() {
    due("clearSet", new int[0], real::clearSet, plain.clearSet());
  }

  private void start() {
    due("start", new int[0], real::start, plain.start());
  }

  private void tick(int a) {
    due("tick", new int[] {a}, () -> real.tick(a), plain.tick(a));
  }

  private void skip() {
    due("skip", new int[0], real::skip, plain.skip());
  }

  private void place() {
    due("place", new int[0], real::place, plain.place());
  }

  private void loaded(int a) {
    due("loaded", new int[] {a}, () -> real.loaded(a), plain.loaded(a));
  }

  private void inHand() {
    due("inHand", new int[0], real::inHand, plain.inHand());
  }

  private void nextUse(int a) {
    due("nextUse", new int[] {a}, () -> real.nextUse(a), plain.nextUse(a));
  }

  private void sounds() {
    due("sounds", new int[0], real::sounds, plain.sounds());
  }

  private void misses() {
    due("misses", new int[0], real::misses, plain.misses());
  }

  private void soundNumber() {
    due("soundNumber", new int[0], real::soundNumber, plain.soundNumber());
  }
}
