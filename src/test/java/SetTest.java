/** Promises 14 to 19: the set list, and how a set is played. */
final class SetTest {
  private static final int FAR = Integer.MAX_VALUE;
  private static final int NEAR = Integer.MIN_VALUE;

  public static void main(String[] args) {
    addToSet();
    clearSet();
    whatWasClearedIsGone();
    start();
    startRefusals();
    tickAnswers();
    tickRefusals();
    ticksBehindTheEnd();
    place();
    skip();
    skipKeepsTheMemory();
    startAgain();
    Check.finish("SetTest");
  }

  /** Songs 0, 1 and 2 of 1, 2 and 3 bars of the patterns 0, 1 and 2, which have the samples 0, 1 and 2. */
  private static BeatPages threeSongs() {
    BeatPages x = new BeatPages();
    for (int song = 0; song < 3; song++) {
      x.addEntry(song, song, song + 1);
      x.setStep(song, song, 4, song);
    }
    return x;
  }

  private static BeatPages played() {
    BeatPages x = threeSongs();
    x.addToSet(0);
    x.addToSet(1);
    x.addToSet(2);
    x.start();
    return x;
  }

  private static void addToSet() {
    BeatPages x = threeSongs();
    for (int song : new int[] {-1, 6, FAR, NEAR}) {
      Check.noSuch("addToSet song", () -> x.addToSet(song));
    }
    for (int count = 1; count <= 8; count++) {
      Check.due("addToSet", x.addToSet(count % 3), count);
    }
    Check.notNow("addToSet 9", () -> x.addToSet(0));
    Check.noSuch("the first listed is thrown", () -> x.addToSet(6));
    Check.due("bars of 8 songs", x.start(), 3 * 3 + 3 * 2 + 2);
    Check.notNow("addToSet while played", () -> x.addToSet(0));
    Check.noSuch("the first listed is thrown", () -> x.addToSet(-1));
    BeatPages y = threeSongs();
    Check.due("a song without bars", y.addToSet(5), 1);
    y.addToSet(0);
    y.addEntry(5, 0, 2);
    Check.due("it has bars when the set is started", y.start(), 3);
    Check.notNow("addToSet while played", () -> y.addToSet(0));
    y.skip();
    y.skip();
    Check.due("as before the refusal", y.addToSet(0), 3);
  }

  private static void clearSet() {
    BeatPages x = threeSongs();
    Check.due("clearSet of none", x.clearSet(), 0);
    x.addToSet(2);
    x.addToSet(0);
    Check.due("clearSet", x.clearSet(), 2);
    Check.due("clearSet again", x.clearSet(), 0);
    Check.notNow("nothing to start", x::start);
    Check.due("addToSet after it", x.addToSet(1), 1);
    Check.due("start", x.start(), 2);
    Check.notNow("clearSet while played", x::clearSet);
    Check.due("still played", x.place(), 0);
    x.skip();
    Check.due("clearSet after the set", x.clearSet(), 1);
    for (int count = 1; count <= 8; count++) {
      x.addToSet(0);
    }
    Check.due("clearSet of 8", x.clearSet(), 8);
  }

  private static void whatWasClearedIsGone() {
    BeatPages x = threeSongs();
    x.addToSet(0);
    x.addToSet(5);
    x.addToSet(1);
    x.clearSet();
    x.addToSet(2);
    Check.due("the song without bars is gone", x.start(), 3);
    x.skip();
    x.clearSet();
    x.addToSet(2);
    x.addToSet(1);
    x.clearSet();
    x.addToSet(2);
    x.start();
    Check.due("nor is a cleared one heard", x.nextUse(1), -1);
    x.tick(3 * 192);
    Check.due("over behind the one song", x.place(), -1);
  }

  private static void start() {
    BeatPages x = threeSongs();
    x.addToSet(2);
    x.addToSet(1);
    x.addToSet(2);
    Check.due("start", x.start(), 8);
    Check.due("the tick 0 of the first bar", x.place(), 0);
    Check.due("an empty memory", x.inHand(), -1);
    for (int sample = 0; sample < 8; sample++) {
      Check.due("an empty memory", x.loaded(sample), 0);
    }
    Check.due("the order of the list", x.nextUse(2), 48);
    Check.due("of the next song", x.nextUse(1), 3 * 192 + 48);
  }

  private static void startRefusals() {
    BeatPages x = threeSongs();
    Check.notNow("start of an empty list", x::start);
    x.addToSet(0);
    x.addToSet(3);
    x.addToSet(1);
    Check.notNow("start with a song without bars", x::start);
    Check.due("not played", x.place(), -1);
    Check.due("not played", x.setSize(0, 1), 1);
    x.addEntry(3, 7, 1);
    Check.due("start", x.start(), 4);
    x.tick(5);
    Check.notNow("start while played", x::start);
    Check.due("it goes on", x.place(), 5);
    Check.due("it goes on", x.inHand(), 5);
    BeatPages y = threeSongs();
    y.addToSet(3);
    Check.notNow("the first song without bars", y::start);
    y.clearSet();
    y.addToSet(0);
    y.addToSet(3);
    Check.notNow("the last song without bars", y::start);
  }

  private static void tickAnswers() {
    BeatPages x = played();
    Check.due("before the step", x.tick(48), 0);
    Check.due("the step", x.tick(1), 1);
    Check.due("after it", x.tick(191), 0);
    Check.due("the next song's step", x.tick(1), 1);
    Check.due("two more", x.tick(2 * 192), 2);
    BeatPages y = new BeatPages();
    y.addEntry(0, 0, 4);
    y.addEntry(0, 0, 4);
    y.addEntry(0, 0, 4);
    for (int track = 0; track < 4; track++) {
      y.setStep(0, track, 2, track);
      y.setStep(0, track, 8, 5);
    }
    y.addToSet(0);
    y.start();
    Check.due("2000 ticks", y.tick(2000), 3 + 4 + 9 * 8 + 4);
    Check.due("place", y.place(), 10000 + 80);
    Check.due("misses do not count", y.misses(), 1);
  }

  private static void tickRefusals() {
    BeatPages x = played();
    for (int ticks : new int[] {0, -1, 2001, FAR, NEAR}) {
      Check.outOfRange("tick", () -> x.tick(ticks));
    }
    Check.due("nothing passed", x.place(), 0);
    Check.due("nothing in hand", x.inHand(), -1);
    BeatPages y = threeSongs();
    Check.notNow("tick before the set", () -> y.tick(1));
    Check.outOfRange("the first listed is thrown", () -> y.tick(0));
    x.tick(2000);
    Check.notNow("tick behind the set", () -> x.tick(1));
    Check.outOfRange("the first listed is thrown", () -> x.tick(2001));
  }

  private static void ticksBehindTheEnd() {
    BeatPages x = played();
    Check.due("all but the last tick", x.tick(6 * 192 - 1), 6);
    Check.due("the last tick is due", x.place(), 202191);
    Check.due("nextUse of the last tick", x.nextUse(2), -1);
    Check.due("the last tick", x.tick(1), 0);
    Check.due("over", x.place(), -1);
    BeatPages y = played();
    y.tick(6 * 192 - 150);
    Check.due("the rest does nothing", y.tick(2000), 1);
    Check.due("over", y.place(), -1);
    Check.due("it does not begin anew", y.sounds(), 6);
    Check.due("nothing more is loaded", y.inHand(), -1);
  }

  private static void place() {
    BeatPages x = threeSongs();
    Check.due("before the set", x.place(), -1);
    x = played();
    int at = 0;
    for (int song = 0; song < 3; song++) {
      for (int bar = 0; bar <= song; bar++) {
        Check.due("place", x.place(), 100000 * song + 1000 * bar);
        x.tick(191);
        Check.due("place", x.place(), 100000 * song + 1000 * bar + 191);
        x.tick(1);
        at++;
      }
    }
    Check.due("bars", at, 6);
    Check.due("behind the set", x.place(), -1);
    BeatPages y = new BeatPages();
    for (int entry = 0; entry < 8; entry++) {
      y.addEntry(4, 0, 4);
    }
    y.jump(4, 7, 0, 3);
    for (int song = 0; song < 8; song++) {
      y.addToSet(4);
    }
    Check.due("the longest set", y.start(), 512);
    for (int song = 0; song < 7; song++) {
      y.skip();
    }
    for (int bars = 0; bars < 60; bars += 10) {
      y.tick(1920);
    }
    y.tick(4 * 192 - 1);
    Check.due("the last place of all", y.place(), 763191);
  }

  private static void skip() {
    BeatPages x = threeSongs();
    Check.notNow("skip before the set", x::skip);
    x = played();
    x.tick(7);
    Check.due("skip", x.skip(), 1);
    Check.due("the first tick of the next song", x.place(), 100000);
    Check.due("nextUse from there", x.nextUse(1), 48);
    Check.due("nextUse from there", x.nextUse(0), -1);
    Check.due("of the song that follows", x.nextUse(2), 2 * 192 + 48);
    x.tick(192 + 100);
    Check.due("within the second bar", x.place(), 101100);
    Check.due("skip", x.skip(), 2);
    Check.due("place", x.place(), 200000);
    Check.due("skip of the last", x.skip(), BeatPages.NONE);
    Check.due("over", x.place(), -1);
    final BeatPages over = x;
    Check.notNow("skip behind the set", over::skip);
    Check.due("no next use", over.nextUse(2), -1);
    Check.due("the second song was heard", over.sounds(), 2);
    Check.due("nothing of the rest was missed", over.misses(), 0);
  }

  private static void skipKeepsTheMemory() {
    BeatPages x = threeSongs();
    x.setSize(0, 2);
    x.addToSet(0);
    x.addToSet(2);
    x.start();
    x.tick(13);
    Check.due("one page", x.loaded(0), 1);
    Check.due("the second in hand", x.inHand(), 5);
    x.skip();
    Check.due("the page stays", x.loaded(0), 1);
    Check.due("the page in hand stays", x.inHand(), 5);
    x.tick(3);
    Check.due("it is worked on to its end", x.loaded(0), 2);
    Check.due("none in hand", x.inHand(), -1);
    x.tick(1);
    Check.due("then what is used next", x.inHand(), 21);
    x.skip();
    Check.due("as it was when the set was over", x.inHand(), 21);
    Check.due("as it was when the set was over", x.loaded(0), 2);
  }

  private static void startAgain() {
    BeatPages x = threeSongs();
    x.addToSet(0);
    x.setStep(0, 3, 0, 7);
    x.start();
    x.tick(60);
    x.tick(2000);
    Check.due("loaded", x.loaded(0), 1);
    int number = x.soundNumber();
    Check.due("start again", x.start(), 1);
    Check.due("an empty memory", x.loaded(0), 0);
    Check.due("place", x.place(), 0);
    Check.due("sounds go on", x.sounds(), 1);
    Check.due("misses go on", x.misses(), 1);
    Check.due("the sound number goes on", x.soundNumber(), number);
    x.tick(3);
    Check.due("in hand", x.inHand(), 3);
    x.skip();
    x.start();
    Check.due("none in hand", x.inHand(), -1);
    x.tick(2);
    Check.due("worked on from the beginning", x.inHand(), 2);
    x.tick(47);
    Check.due("sounds", x.sounds(), 2);
    Check.due("misses", x.misses(), 3);
  }
}
