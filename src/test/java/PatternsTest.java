/** Promises 1 to 7: a new object, and the samples and patterns. */
final class PatternsTest {
  private static final int FAR = Integer.MAX_VALUE;
  private static final int NEAR = Integer.MIN_VALUE;

  public static void main(String[] args) {
    newObject();
    setSize();
    tune();
    setStep();
    setFill();
    setFeel();
    freezeAnswers();
    freezeKeepsTunes();
    eachPatternKeepsItsOwnTunes();
    refusedWhilePlayed();
    firstListedExceptionFirst();
    Check.finish("PatternsTest");
  }

  private static BeatPages played() {
    BeatPages x = new BeatPages();
    x.setStep(0, 0, 1, 0);
    x.addEntry(0, 0, 2);
    x.addToSet(0);
    x.start();
    return x;
  }

  private static void newObject() {
    BeatPages x = new BeatPages();
    Check.due("new place", x.place(), -1);
    Check.due("new inHand", x.inHand(), -1);
    Check.due("new sounds", x.sounds(), 0);
    Check.due("new misses", x.misses(), 0);
    Check.due("new soundNumber", x.soundNumber(), 0);
    for (int song = 0; song < 6; song++) {
      final int of = song;
      Check.due("new bars", x.bars(song), 0);
      Check.due("new beats", x.beats(song), 0);
      Check.due("new beatsByTicks", x.beatsByTicks(song), 0);
      Check.noSuch("new barAt", () -> x.barAt(of, 0));
      Check.noSuch("new jump", () -> x.jump(of, 0, 0, 1));
    }
    for (int sample = 0; sample < 8; sample++) {
      Check.due("new size", x.setSize(sample, 1), 1);
      Check.due("new tune", x.tune(sample, 0), 0);
      Check.due("new loaded", x.loaded(sample), 0);
      Check.due("new nextUse", x.nextUse(sample), -1);
    }
    for (int pattern = 0; pattern < 12; pattern++) {
      Check.due("new feel", x.setFeel(pattern, 0, 0), 0);
      Check.due("new freeze", x.freeze(pattern, false), false);
    }
    Check.notNow("new start", x::start);
    Check.notNow("new tick", () -> x.tick(1));
    Check.notNow("new skip", x::skip);
    Check.due("new clearSet", x.clearSet(), 0);
    for (int song = 0; song < 6; song++) {
      Check.due("new addEntry", x.addEntry(song, 0, 1), 0);
    }
    noSteps();
  }

  private static void noSteps() {
    for (int pattern = 0; pattern < 12; pattern++) {
      BeatPages x = new BeatPages();
      for (int track = 0; track < 4; track++) {
        for (int step = 0; step < 16; step++) {
          Check.due("new setStep", x.setStep(pattern, track, step, -1), -1);
        }
        for (int step = 12; step < 16; step++) {
          Check.due("new setFill", x.setFill(pattern, track, step, -1), -1);
        }
      }
    }
  }

  private static void setSize() {
    BeatPages x = new BeatPages();
    Check.due("setSize(0, 6)", x.setSize(0, 6), 1);
    Check.due("setSize(0, 1)", x.setSize(0, 1), 6);
    Check.due("setSize(7, 3)", x.setSize(7, 3), 1);
    for (int sample : new int[] {-1, 8, FAR, NEAR}) {
      Check.noSuch("setSize no sample", () -> x.setSize(sample, 1));
    }
    for (int pages : new int[] {0, 7, -1, FAR, NEAR}) {
      Check.outOfRange("setSize pages", () -> x.setSize(7, pages));
    }
    Check.due("setSize after refusals", x.setSize(7, 3), 3);
    Check.due("setSize of another", x.setSize(6, 1), 1);
  }

  private static void tune() {
    BeatPages x = new BeatPages();
    Check.due("tune(0, 12)", x.tune(0, 12), 0);
    Check.due("tune(0, -12)", x.tune(0, -12), 12);
    Check.due("tune(7, 5)", x.tune(7, 5), 0);
    for (int sample : new int[] {-1, 8, FAR, NEAR}) {
      Check.noSuch("tune no sample", () -> x.tune(sample, 0));
    }
    for (int tune : new int[] {-13, 13, FAR, NEAR}) {
      Check.outOfRange("tune range", () -> x.tune(0, tune));
    }
    Check.due("tune after refusals", x.tune(0, 0), -12);
    BeatPages y = played();
    Check.due("tune while played", y.tune(0, 3), 0);
    y.tick(13);
    Check.due("a tune of now is heard", y.soundNumber(), 15);
  }

  private static void setStep() {
    BeatPages x = new BeatPages();
    Check.due("setStep(11, 3, 15, 7)", x.setStep(11, 3, 15, 7), -1);
    Check.due("setStep(11, 3, 15, 0)", x.setStep(11, 3, 15, 0), 7);
    Check.due("setStep(11, 3, 15, NONE)", x.setStep(11, 3, 15, BeatPages.NONE), 0);
    Check.due("setStep again", x.setStep(11, 3, 15, 4), -1);
    Check.due("setStep(0, 0, 0, 2)", x.setStep(0, 0, 0, 2), -1);
    for (int index : new int[] {-1, FAR, NEAR}) {
      Check.noSuch("setStep pattern", () -> x.setStep(index, 0, 0, 0));
      Check.noSuch("setStep track", () -> x.setStep(0, index, 0, 0));
      Check.noSuch("setStep step", () -> x.setStep(0, 0, index, 0));
    }
    Check.noSuch("setStep pattern 12", () -> x.setStep(12, 0, 0, 0));
    Check.noSuch("setStep track 4", () -> x.setStep(0, 4, 0, 0));
    Check.noSuch("setStep step 16", () -> x.setStep(0, 0, 16, 0));
    for (int sample : new int[] {-2, 8, FAR, NEAR}) {
      Check.noSuch("setStep sample", () -> x.setStep(0, 0, 0, sample));
    }
    Check.due("setStep after refusals", x.setStep(0, 0, 0, 1), 2);
    Check.due("setStep beside", x.setStep(0, 1, 0, 1), -1);
    Check.due("the fill is another", x.setFill(11, 3, 15, 1), -1);
    eachStepIsItsOwn();
  }

  private static void eachStepIsItsOwn() {
    for (int pattern = 0; pattern < 12; pattern += 11) {
      BeatPages x = new BeatPages();
      for (int at = 0; at < 64; at++) {
        x.setStep(pattern, at / 16, at % 16, (at * 5 + at / 16) % 8);
      }
      for (int at = 0; at < 64; at++) {
        Check.due("step kept", x.setStep(pattern, at / 16, at % 16, -1), (at * 5 + at / 16) % 8);
      }
    }
  }

  private static void setFill() {
    BeatPages x = new BeatPages();
    Check.due("setFill(11, 3, 15, 7)", x.setFill(11, 3, 15, 7), -1);
    Check.due("setFill(11, 3, 15, NONE)", x.setFill(11, 3, 15, -1), 7);
    Check.due("setFill(0, 0, 12, 2)", x.setFill(0, 0, 12, 2), -1);
    for (int index : new int[] {-1, FAR, NEAR}) {
      Check.noSuch("setFill pattern", () -> x.setFill(index, 0, 12, 0));
      Check.noSuch("setFill track", () -> x.setFill(0, index, 12, 0));
      Check.noSuch("setFill step", () -> x.setFill(0, 0, index, 0));
    }
    Check.noSuch("setFill pattern 12", () -> x.setFill(12, 0, 12, 0));
    Check.noSuch("setFill track 4", () -> x.setFill(0, 4, 12, 0));
    Check.noSuch("setFill step 11", () -> x.setFill(0, 0, 11, 0));
    Check.noSuch("setFill step 16", () -> x.setFill(0, 0, 16, 0));
    for (int sample : new int[] {-2, 8, FAR, NEAR}) {
      Check.noSuch("setFill sample", () -> x.setFill(0, 0, 12, sample));
    }
    Check.due("setFill after refusals", x.setFill(0, 0, 12, 1), 2);
    for (int at = 0; at < 16; at++) {
      x.setFill(5, at / 4, 12 + at % 4, at % 7);
    }
    for (int at = 0; at < 16; at++) {
      Check.due("fill kept", x.setFill(5, at / 4, 12 + at % 4, -1), at % 7);
      Check.due("the step is another", x.setStep(5, at / 4, 12 + at % 4, -1), -1);
    }
  }

  private static void setFeel() {
    BeatPages x = new BeatPages();
    Check.due("setFeel(0, 6, 8)", x.setFeel(0, 6, 8), 0);
    Check.due("setFeel(0, 1, 2)", x.setFeel(0, 1, 2), 6);
    Check.due("setFeel(0, 3, 0)", x.setFeel(0, 3, 0), 1);
    Check.due("setFeel(11, 2, 5)", x.setFeel(11, 2, 5), 0);
    for (int pattern : new int[] {-1, 12, FAR, NEAR}) {
      Check.noSuch("setFeel pattern", () -> x.setFeel(pattern, 0, 0));
    }
    for (int swing : new int[] {-1, 7, FAR, NEAR}) {
      Check.outOfRange("setFeel swing", () -> x.setFeel(0, swing, 2));
    }
    for (int every : new int[] {-1, 1, 9, FAR, NEAR}) {
      Check.outOfRange("setFeel every", () -> x.setFeel(0, 5, every));
    }
    Check.due("setFeel after refusals", x.setFeel(0, 0, 0), 3);
    swingMovesOddSteps();
    eachFillIsItsOwn();
  }

  private static void eachFillIsItsOwn() {
    BeatPages x = new BeatPages();
    for (int at = 0; at < 12 * 16; at++) {
      x.setFill(at / 16, at / 4 % 4, 12 + at % 4, at * 5 % 7);
    }
    for (int at = 0; at < 12 * 16; at++) {
      Check.due("fill kept", x.setFill(at / 16, at / 4 % 4, 12 + at % 4, -1), at * 5 % 7);
    }
  }

  private static void swingMovesOddSteps() {
    for (int swing = 0; swing <= 6; swing++) {
      BeatPages x = new BeatPages();
      x.setFeel(3, swing, 0);
      x.setStep(3, 0, 4, 4);
      x.setStep(3, 1, 5, 5);
      x.setStep(3, 2, 15, 6);
      x.addEntry(0, 3, 1);
      x.addToSet(0);
      x.start();
      Check.due("an even step does not swing", x.nextUse(4), 48);
      Check.due("step 5 swings", x.nextUse(5), 60 + swing);
      Check.due("step 15 swings", x.nextUse(6), 180 + swing);
      x.tick(60 + swing);
      Check.due("before the odd step", x.sounds(), 1);
      Check.due("at the odd step", x.tick(1), 1);
    }
  }

  private static void freezeAnswers() {
    BeatPages x = new BeatPages();
    Check.due("freeze(11, true)", x.freeze(11, true), false);
    Check.due("freeze(11, true) again", x.freeze(11, true), true);
    Check.due("freeze(11, false)", x.freeze(11, false), true);
    Check.due("freeze(11, false) again", x.freeze(11, false), false);
    Check.due("freeze(0, true)", x.freeze(0, true), false);
    Check.due("freeze of another", x.freeze(1, false), false);
    for (int pattern : new int[] {-1, 12, FAR, NEAR}) {
      Check.noSuch("freeze pattern", () -> x.freeze(pattern, true));
      Check.noSuch("thaw pattern", () -> x.freeze(pattern, false));
    }
  }

  private static int heard(BeatPages x, int ticks) {
    int before = x.soundNumber();
    Check.due("one sample sounds", x.tick(ticks), 1);
    return x.soundNumber() - 31 * before;
  }

  private static void freezeKeepsTunes() {
    BeatPages x = new BeatPages();
    x.setStep(0, 0, 1, 2);
    x.setStep(1, 0, 1, 2);
    x.addEntry(0, 0, 3);
    x.addEntry(0, 1, 1);
    x.addEntry(0, 0, 4);
    x.addToSet(0);
    x.tune(2, 7);
    x.freeze(0, true);
    x.tune(2, -3);
    x.start();
    Check.due("a frozen pattern keeps its tunes", heard(x, 192), 219);
    Check.due("it is frozen already", x.freeze(0, true), true);
    Check.due("it keeps the tunes that it has", heard(x, 192), 219);
    x.tune(2, 12);
    Check.due("whatever is retuned", heard(x, 192), 219);
    Check.due("a pattern that is not frozen is retuned", heard(x, 192), 224);
    x.freeze(0, false);
    Check.due("thawed, it has the tunes of now", heard(x, 192), 224);
    x.tune(2, -12);
    Check.due("and is retuned", heard(x, 192), 200);
    x.freeze(0, true);
    x.tune(2, 0);
    Check.due("frozen anew, it keeps the new tunes", heard(x, 192), 200);
    x.freeze(0, false);
    x.freeze(0, true);
    Check.due("thawed and frozen, it keeps those of now", heard(x, 192), 212);
  }

  private static void eachPatternKeepsItsOwnTunes() {
    BeatPages x = new BeatPages();
    for (int pattern = 0; pattern < 3; pattern++) {
      x.setStep(pattern, 0, 8, 0);
      x.setStep(pattern, 0, 9, 7);
      x.tune(0, pattern + 1);
      x.tune(7, -pattern - 1);
      x.freeze(pattern, true);
    }
    x.tune(0, 12);
    x.tune(7, -12);
    for (int pattern = 2; pattern >= 0; pattern--) {
      x.addEntry(0, pattern, 1);
    }
    x.addToSet(0);
    x.start();
    int want = 0;
    for (int pattern = 2; pattern >= 0; pattern--) {
      Check.due("two samples sound", x.tick(192), 2);
      want = 31 * want + pattern + 1 + 12;
      want = 31 * want + 700 - pattern - 1 + 12;
      Check.due("each pattern keeps its own tunes", x.soundNumber(), want);
    }
  }

  private static void refusedWhilePlayed() {
    BeatPages x = played();
    Check.notNow("setSize", () -> x.setSize(0, 2));
    Check.notNow("setStep", () -> x.setStep(0, 0, 1, 3));
    Check.notNow("setFill", () -> x.setFill(0, 0, 12, 3));
    Check.notNow("setFeel", () -> x.setFeel(0, 4, 2));
    Check.due("freeze while played", x.freeze(0, true), false);
    Check.due("thaw while played", x.freeze(0, false), true);
    x.skip();
    Check.due("size as before", x.setSize(0, 2), 1);
    Check.due("step as before", x.setStep(0, 0, 1, 3), 0);
    Check.due("fill as before", x.setFill(0, 0, 12, 3), -1);
    Check.due("no fill bars as before", x.barAt(0, 1), 0);
    Check.due("feel as before", x.setFeel(0, 4, 2), 0);
  }

  private static void firstListedExceptionFirst() {
    BeatPages x = played();
    Check.noSuch("setSize", () -> x.setSize(8, 0));
    Check.outOfRange("setSize", () -> x.setSize(0, 0));
    Check.noSuch("tune", () -> x.tune(-1, 13));
    Check.noSuch("setStep", () -> x.setStep(0, 0, 0, 8));
    Check.noSuch("setFill", () -> x.setFill(0, 0, 11, 0));
    Check.noSuch("setFeel", () -> x.setFeel(12, 7, 1));
    Check.outOfRange("setFeel", () -> x.setFeel(0, 0, 1));
    Check.outOfRange("setFeel", () -> x.setFeel(0, 7, 0));
  }
}
