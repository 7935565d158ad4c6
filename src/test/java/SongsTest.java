/** Promises 8 to 13: the songs. */
final class SongsTest {
  private static final int FAR = Integer.MAX_VALUE;
  private static final int NEAR = Integer.MIN_VALUE;

  public static void main(String[] args) {
    addEntry();
    jumpAnswers();
    jumpRefusals();
    jumpsAreCountedOverTheSong();
    songsEndWithTheirLastBar();
    barAt();
    turnsAreCountedOverTheSong();
    beats();
    beatsInFills();
    beatsOfOtherPatternsDoNotCount();
    refusedWhilePlayed();
    Check.finish("SongsTest");
  }

  private static void addEntry() {
    BeatPages x = new BeatPages();
    for (int entry = 0; entry < 8; entry++) {
      Check.due("addEntry", x.addEntry(5, 11, 1 + entry % 4), entry);
    }
    Check.notNow("addEntry 9", () -> x.addEntry(5, 0, 1));
    Check.due("bars", x.bars(5), 20);
    Check.due("addEntry of another song", x.addEntry(4, 0, 1), 0);
    for (int index : new int[] {-1, FAR, NEAR}) {
      Check.noSuch("addEntry song", () -> x.addEntry(index, 0, 1));
      Check.noSuch("addEntry pattern", () -> x.addEntry(0, index, 1));
    }
    Check.noSuch("addEntry song 6", () -> x.addEntry(6, 0, 1));
    Check.noSuch("addEntry pattern 12", () -> x.addEntry(0, 12, 1));
    for (int repeats : new int[] {0, 5, -1, FAR, NEAR}) {
      Check.outOfRange("addEntry repeats", () -> x.addEntry(0, 0, repeats));
    }
    Check.noSuch("the first listed is thrown", () -> x.addEntry(0, 12, 0));
    Check.outOfRange("the range stands before a full song", () -> x.addEntry(5, 0, 0));
    Check.due("bars after refusals", x.bars(0), 0);
    Check.due("bars after refusals", x.bars(5), 20);
  }

  private static BeatPages threeEntries() {
    BeatPages x = new BeatPages();
    x.addEntry(2, 4, 2);
    x.addEntry(2, 5, 1);
    x.addEntry(2, 6, 3);
    return x;
  }

  private static void patternsDue(String call, BeatPages x, int song, int... patterns) {
    Check.due(call + ": bars", x.bars(song), patterns.length);
    for (int bar = 0; bar < patterns.length && bar < x.bars(song); bar++) {
      Check.due(call + ": bar " + bar, x.barAt(song, bar) / 10, patterns[bar]);
    }
  }

  private static void jumpAnswers() {
    BeatPages x = threeEntries();
    patternsDue("no jump", x, 2, 4, 4, 5, 6, 6, 6);
    Check.due("jump ahead", x.jump(2, 1, 0, 1), 9);
    patternsDue("jump ahead", x, 2, 4, 4, 5, 4, 4, 5, 6, 6, 6);
    Check.due("in place of another one", x.jump(2, 1, 1, 2), 8);
    patternsDue("jump to itself", x, 2, 4, 4, 5, 5, 5, 6, 6, 6);
    Check.due("no jump", x.jump(2, 1, 0, 0), 6);
    patternsDue("taken away", x, 2, 4, 4, 5, 6, 6, 6);
    Check.due("jump behind", x.jump(2, 0, 2, 3), 5);
    patternsDue("jump behind", x, 2, 4, 4, 6, 6, 6);
    x.jump(2, 0, 0, 0);
    Check.due("jump from the last", x.jump(2, 2, 0, 2), 18);
    patternsDue("jump from the last", x, 2, 4, 4, 5, 6, 6, 6, 4, 4, 5, 6, 6, 6, 4, 4, 5, 6, 6, 6);
    Check.due("jump of the last to itself", x.jump(2, 2, 2, 1), 9);
    Check.due("an entry behind it", x.addEntry(2, 7, 1), 3);
    patternsDue("an entry behind it", x, 2, 4, 4, 5, 6, 6, 6, 6, 6, 6, 7);
  }

  private static void jumpRefusals() {
    BeatPages x = threeEntries();
    for (int index : new int[] {-1, 6, FAR, NEAR}) {
      Check.noSuch("jump song", () -> x.jump(index, 0, 0, 1));
    }
    for (int index : new int[] {-1, 3, 8, FAR, NEAR}) {
      Check.noSuch("jump entry", () -> x.jump(2, index, 0, 1));
      Check.noSuch("jump to", () -> x.jump(2, 0, index, 1));
      Check.noSuch("no jump, to", () -> x.jump(2, 0, index, 0));
    }
    for (int times : new int[] {-1, 4, FAR, NEAR}) {
      Check.outOfRange("jump times", () -> x.jump(2, 1, 0, times));
    }
    Check.noSuch("the first listed is thrown", () -> x.jump(2, 3, 0, 4));
    Check.noSuch("a song without entries", () -> x.jump(1, 0, 0, 1));
    patternsDue("after refusals", x, 2, 4, 4, 5, 6, 6, 6);
  }

  private static void jumpsAreCountedOverTheSong() {
    BeatPages x = new BeatPages();
    x.addEntry(0, 0, 1);
    x.addEntry(0, 1, 1);
    x.addEntry(0, 2, 1);
    x.jump(0, 1, 0, 1);
    Check.due("a jump done stays done", x.jump(0, 2, 0, 1), 8);
    patternsDue("a jump done stays done", x, 0, 0, 1, 0, 1, 2, 0, 1, 2);
    Check.due("a way past an entry", x.jump(0, 0, 2, 1), 7);
    patternsDue("a way past an entry", x, 0, 0, 2, 0, 1, 0, 1, 2);
  }

  private static void songsEndWithTheirLastBar() {
    BeatPages x = new BeatPages();
    for (int entry = 0; entry < 8; entry++) {
      x.addEntry(3, entry, 4);
    }
    Check.due("32 bars", x.bars(3), 32);
    Check.due("64 bars", x.jump(3, 7, 0, 1), 64);
    Check.due("the 64th bar is the last", x.barAt(3, 63), 70);
    Check.due("no more", x.jump(3, 7, 0, 3), 64);
    Check.noSuch("bar 64", () -> x.barAt(3, 64));
    x.jump(3, 7, 0, 0);
    Check.due("one below", x.jump(3, 0, 0, 3), 44);
    BeatPages y = new BeatPages();
    y.addEntry(0, 9, 3);
    y.addEntry(0, 8, 4);
    for (int entry = 2; entry < 8; entry++) {
      y.addEntry(0, entry, 3);
    }
    Check.due("25 bars", y.bars(0), 25);
    Check.due("cut within an entry", y.jump(0, 7, 0, 3), 64);
    Check.due("bar 50", y.barAt(0, 50), 90);
    Check.due("bar 63", y.barAt(0, 63), 40);
  }

  private static void barAt() {
    BeatPages x = new BeatPages();
    x.addEntry(0, 11, 4);
    x.addEntry(0, 10, 4);
    x.setFeel(11, 0, 3);
    x.setFeel(10, 0, 4);
    int[] due = {110, 110, 111, 110, 100, 100, 100, 101};
    for (int bar = 0; bar < due.length; bar++) {
      Check.due("barAt", x.barAt(0, bar), due[bar]);
    }
    for (int bar : new int[] {-1, 8, 64, FAR, NEAR}) {
      Check.noSuch("barAt bar", () -> x.barAt(0, bar));
    }
    for (int song : new int[] {-1, 6, FAR, NEAR}) {
      Check.noSuch("barAt song", () -> x.barAt(song, 0));
      Check.noSuch("bars song", () -> x.bars(song));
      Check.noSuch("beats song", () -> x.beats(song));
      Check.noSuch("beatsByTicks song", () -> x.beatsByTicks(song));
    }
    x.setFeel(11, 0, 0);
    Check.due("never", x.barAt(0, 2), 110);
    x.setFeel(11, 0, 2);
    Check.due("every second", x.barAt(0, 1), 111);
    Check.due("every second", x.barAt(0, 2), 110);
    Check.due("every second", x.barAt(0, 3), 111);
  }

  private static void turnsAreCountedOverTheSong() {
    BeatPages x = new BeatPages();
    x.addEntry(0, 1, 1);
    x.addEntry(0, 2, 1);
    x.addEntry(0, 1, 1);
    x.jump(0, 2, 0, 2);
    x.setFeel(1, 0, 4);
    x.setFeel(2, 0, 2);
    int[] due = {10, 20, 10, 10, 21, 11, 10, 20, 10};
    Check.due("bars", x.bars(0), due.length);
    for (int bar = 0; bar < due.length; bar++) {
      Check.due("turn of bar " + bar, x.barAt(0, bar), due[bar]);
    }
    x.addEntry(1, 1, 4);
    Check.due("another song counts anew", x.barAt(1, 0), 10);
    Check.due("another song counts anew", x.barAt(1, 3), 11);
    BeatPages y = new BeatPages();
    y.addEntry(0, 3, 4);
    y.jump(0, 0, 0, 3);
    for (int every = 2; every <= 8; every++) {
      y.setFeel(3, 0, every);
      for (int bar = 0; bar < 16; bar++) {
        Check.due("every " + every, y.barAt(0, bar), (bar + 1) % every == 0 ? 31 : 30);
      }
    }
  }

  private static void beatsDue(String call, BeatPages x, int song, int want) {
    Check.due(call + ": beats", x.beats(song), want);
    Check.due(call + ": beatsByTicks", x.beatsByTicks(song), want);
  }

  private static void beats() {
    BeatPages x = new BeatPages();
    x.addEntry(0, 0, 2);
    x.addEntry(0, 1, 3);
    beatsDue("no step", x, 0, 0);
    x.setStep(0, 0, 0, 0);
    beatsDue("sample 0", x, 0, 2);
    x.setStep(0, 3, 15, 7);
    x.setStep(0, 1, 15, 7);
    beatsDue("two tracks at one step", x, 0, 6);
    x.setStep(1, 2, 1, 3);
    beatsDue("the other pattern", x, 0, 9);
    x.setFeel(0, 6, 0);
    x.setFeel(1, 1, 0);
    beatsDue("with swing", x, 0, 9);
    x.setStep(0, 3, 15, -1);
    beatsDue("taken away", x, 0, 7);
    beatsDue("a song without bars", x, 1, 0);
    for (int at = 0; at < 64; at++) {
      x.setStep(2, at / 16, at % 16, at % 8);
    }
    x.addEntry(5, 2, 4);
    beatsDue("all steps", x, 5, 256);
    for (int entry = 1; entry < 8; entry++) {
      x.addEntry(5, 2, 4);
    }
    x.jump(5, 7, 0, 3);
    beatsDue("the most that there is", x, 5, 4096);
  }

  private static void beatsInFills() {
    BeatPages x = new BeatPages();
    x.addEntry(0, 0, 4);
    x.setFeel(0, 5, 2);
    x.setStep(0, 0, 11, 1);
    x.setStep(0, 0, 12, 1);
    x.setStep(0, 3, 15, 1);
    beatsDue("an empty fill overrides", x, 0, 8);
    x.setFill(0, 1, 12, 2);
    x.setFill(0, 1, 13, 2);
    x.setFill(0, 2, 15, 2);
    beatsDue("a fill", x, 0, 14);
    x.setFeel(0, 5, 0);
    beatsDue("never", x, 0, 12);
    x.setFeel(0, 5, 4);
    beatsDue("every fourth", x, 0, 13);
    x.setFeel(0, 5, 5);
    beatsDue("every fifth of four", x, 0, 12);
  }

  private static void beatsOfOtherPatternsDoNotCount() {
    BeatPages x = new BeatPages();
    for (int at = 0; at < 64; at++) {
      x.setStep(4, at / 16, at % 16, 0);
      x.setFill(4, at / 16, 12 + at % 4, 0);
      x.setStep(6, at / 16, at % 16, 0);
      x.setFill(6, at / 16, 12 + at % 4, 0);
    }
    x.setFeel(5, 0, 2);
    x.addEntry(0, 5, 2);
    beatsDue("of other patterns", x, 0, 0);
    x.addToSet(0);
    x.start();
    Check.due("nor are they used", x.nextUse(0), -1);
    x.tick(384);
    Check.due("nor do they sound", x.sounds(), 0);
    Check.due("nor are they missed", x.misses(), 0);
  }

  private static void refusedWhilePlayed() {
    BeatPages x = threeEntries();
    x.setStep(4, 0, 0, 0);
    x.addToSet(2);
    x.start();
    Check.notNow("addEntry", () -> x.addEntry(2, 0, 1));
    Check.notNow("addEntry to another song", () -> x.addEntry(0, 0, 1));
    Check.notNow("jump", () -> x.jump(2, 0, 0, 1));
    Check.notNow("no jump", () -> x.jump(2, 0, 0, 0));
    Check.noSuch("addEntry, first listed", () -> x.addEntry(6, 0, 0));
    Check.outOfRange("addEntry, second listed", () -> x.addEntry(0, 0, 0));
    Check.noSuch("jump, first listed", () -> x.jump(2, 3, 0, 1));
    Check.outOfRange("jump, second listed", () -> x.jump(2, 0, 0, 4));
    Check.due("bars while played", x.bars(2), 6);
    Check.due("barAt while played", x.barAt(2, 2), 50);
    beatsDue("while played", x, 2, 2);
    x.skip();
    patternsDue("after the set", x, 2, 4, 4, 5, 6, 6, 6);
    Check.due("addEntry after the set", x.addEntry(2, 0, 1), 3);
    Check.due("jump after the set", x.jump(2, 0, 0, 1), 9);
  }
}
