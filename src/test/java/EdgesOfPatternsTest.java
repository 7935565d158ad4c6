/** The edges of samples and patterns, of the terms and of promises 1 to 7: a method for each sentence. */
final class EdgesOfPatternsTest extends Ways {
  public static void main(String[] args) {
    newObject();
    samples();
    sizes();
    sizesAtFirst();
    sizesBefore();
    tunes();
    tunesAtFirst();
    tunesBefore();
    tunesWhilePlayed();
    patterns();
    tracksAndSteps();
    stepsAtFirst();
    stepsBefore();
    swings();
    swingsBefore();
    swingAndEveryTogether();
    fillSteps();
    fillsAtFirst();
    fillsBefore();
    fillBars();
    noFillBarsAtFirst();
    ticksOfABar();
    evenSteps();
    oddSteps();
    frozenKeepsAllTunes();
    frozenKeepsWhatIsRetuned();
    frozenUntilThawed();
    frozenAlready();
    frozenInTheMidstOfABar();
    frozenBefore();
    none();
    Check.finish("EdgesOfPatternsTest");
  }

  private static void newObject() {
    Check.sentence("Begins without steps and entries, and with an empty set list, which is not played.");
    BeatPages x = new BeatPages();
    Check.due("entries", x.addEntry(0, 0, 1), 0);
    Check.due("steps", x.beats(0), 0);
    Check.due("not played", x.place(), -1);
    Check.notNow("not played", () -> x.tick(1));
    Check.notNow("an empty set list", x::start);
    Check.due("an empty set list", x.clearSet(), 0);
  }

  private static void samples() {
    Check.sentence("Samples are 0 to 7");
    BeatPages x = new BeatPages();
    for (int sample = 0; sample <= 7; sample++) {
      Check.due("setSize", x.setSize(sample, 2), 1);
      Check.due("tune", x.tune(sample, 1), 0);
      Check.due("loaded", x.loaded(sample), 0);
      Check.due("nextUse", x.nextUse(sample), -1);
      Check.due("setStep", x.setStep(0, 0, sample, sample), -1);
      Check.due("setFill", x.setFill(sample, 0, 12, sample), -1);
      Check.due("setStep again", x.setStep(0, 0, sample, 0), sample);
      Check.due("setFill again", x.setFill(sample, 0, 12, 0), sample);
    }
    for (int sample : new int[] {-1, 8}) {
      Check.noSuch("setSize", () -> x.setSize(sample, 1));
      Check.noSuch("tune", () -> x.tune(sample, 0));
      Check.noSuch("loaded", () -> x.loaded(sample));
      Check.noSuch("nextUse", () -> x.nextUse(sample));
    }
    for (int sample : new int[] {-2, 8}) {
      Check.noSuch("setStep", () -> x.setStep(0, 0, 0, sample));
      Check.noSuch("setFill", () -> x.setFill(0, 0, 12, sample));
    }
  }

  /** The step begins at the very tick behind which all pages of so large a sample are loaded, or one earlier. */
  private static void heardAtTick(int size, int step, int swing, int sounds) {
    BeatPages x = new BeatPages();
    x.setSize(7, size);
    x.setFeel(0, swing, 0);
    x.setStep(0, 0, step, 7);
    play(x, 0);
    String told = "size " + size + " used at tick " + (12 * step + swing);
    x.tick(12 * step + swing);
    Check.due(told + ": loaded", x.loaded(7), sounds == 1 ? size : size - 1);
    Check.due(told + ": sounds", x.tick(1), sounds);
    Check.due(told + ": misses", x.misses(), 1 - sounds);
  }

  private static void sizes() {
    Check.sentence("a sample has a size, 1 to 6 pages");
    BeatPages x = new BeatPages();
    for (int sample = 0; sample <= 7; sample++) {
      final int of = sample;
      Check.due("6 pages", x.setSize(sample, 6), 1);
      Check.outOfRange("7 pages", () -> x.setSize(of, 7));
      Check.due("1 page", x.setSize(sample, 1), 6);
      Check.outOfRange("0 pages", () -> x.setSize(of, 0));
      Check.due("as before", x.setSize(sample, 1), 1);
    }
    heardAtTick(1, 1, 0, 1);
    heardAtTick(2, 1, 4, 1);
    heardAtTick(2, 1, 3, 0);
    heardAtTick(5, 3, 4, 1);
    heardAtTick(5, 3, 3, 0);
    heardAtTick(6, 4, 0, 1);
    heardAtTick(6, 3, 6, 0);
  }

  private static void sizesAtFirst() {
    Check.sentence("a sample has a size, 1 to 6 pages, at first 1");
    for (int sample = 0; sample <= 7; sample++) {
      BeatPages x = new BeatPages();
      x.setStep(0, 3, 1, sample);
      play(x, 0);
      Check.due("one page is all of it", x.tick(13), 1);
      Check.due("one page is all of it", x.loaded(sample), 1);
      x.skip();
      Check.due("at first 1", x.setSize(sample, 3), 1);
    }
  }

  private static void sizesBefore() {
    Check.sentence("Returns the size before.");
    BeatPages x = new BeatPages();
    for (int pages = 1; pages <= 6; pages++) {
      Check.due("the size before", x.setSize(7, pages), pages == 1 ? 1 : pages - 1);
    }
    Check.due("the same again", x.setSize(7, 6), 6);
    Check.due("of another", x.setSize(0, 6), 1);
  }

  /** The sound number behind one sound of a sample with such a tune. */
  private static int heardWith(int sample, int tune) {
    BeatPages x = new BeatPages();
    x.tune(sample, tune);
    x.setStep(0, 0, 1, sample);
    play(x, 0).tick(13);
    return x.soundNumber();
  }

  private static void tunes() {
    Check.sentence("and a tune, -12 to 12");
    BeatPages x = new BeatPages();
    for (int sample = 0; sample <= 7; sample++) {
      final int of = sample;
      Check.due("-12", x.tune(sample, -12), 0);
      Check.outOfRange("-13", () -> x.tune(of, -13));
      Check.due("12", x.tune(sample, 12), -12);
      Check.outOfRange("13", () -> x.tune(of, 13));
      Check.due("as before", x.tune(sample, 12), 12);
      Check.due("-12 is heard", heardWith(sample, -12), 100 * sample);
      Check.due("-11 is heard", heardWith(sample, -11), 100 * sample + 1);
      Check.due("11 is heard", heardWith(sample, 11), 100 * sample + 23);
      Check.due("12 is heard", heardWith(sample, 12), 100 * sample + 24);
    }
  }

  private static void tunesAtFirst() {
    Check.sentence("and a tune, -12 to 12, at first 0");
    for (int sample = 0; sample <= 7; sample++) {
      BeatPages x = new BeatPages();
      x.setStep(0, 0, 1, sample);
      play(x, 0).tick(13);
      Check.due("0 is heard", x.soundNumber(), 100 * sample + 12);
      Check.due("at first 0", x.tune(sample, 1), 0);
    }
  }

  private static void tunesBefore() {
    Check.sentence("Returns the tune before.");
    BeatPages x = new BeatPages();
    for (int tune = -12; tune <= 12; tune++) {
      Check.due("the tune before", x.tune(0, tune), tune == -12 ? 0 : tune - 1);
    }
    Check.due("the same again", x.tune(0, 12), 12);
    Check.due("of another", x.tune(7, 12), 0);
  }

  private static void tunesWhilePlayed() {
    Check.sentence("tunes can, and patterns can be frozen and thawed.");
    BeatPages x = new BeatPages();
    x.setStep(0, 0, 1, 0);
    x.setStep(0, 0, 2, 0);
    play(x, 0);
    x.tick(12);
    Check.due("one tick ahead", x.tune(0, -12), 0);
    x.tick(1);
    Check.due("heard", x.soundNumber(), 0);
    Check.due("one tick behind", x.tune(0, 12), -12);
    Check.due("what was heard stays", x.soundNumber(), 0);
    Check.due("frozen", x.freeze(0, true), false);
    x.tune(0, 5);
    x.tick(12);
    Check.due("heard as frozen", x.soundNumber(), 24);
    Check.due("thawed", x.freeze(0, false), true);
  }

  private static void patterns() {
    Check.sentence("Patterns are 0 to 11");
    BeatPages x = new BeatPages();
    for (int pattern = 0; pattern <= 11; pattern++) {
      Check.due("setStep", x.setStep(pattern, 0, 0, 1), -1);
      Check.due("setFill", x.setFill(pattern, 0, 12, 2), -1);
      Check.due("setFeel", x.setFeel(pattern, 3, 4), 0);
      Check.due("freeze", x.freeze(pattern, true), false);
      Check.due("addEntry", x.addEntry(pattern / 2, pattern, 1), pattern % 2);
      Check.due("barAt", x.barAt(pattern / 2, pattern % 2), 10 * pattern);
    }
    for (int pattern : new int[] {-1, 12}) {
      Check.noSuch("setStep", () -> x.setStep(pattern, 0, 0, 1));
      Check.noSuch("setFill", () -> x.setFill(pattern, 0, 12, 2));
      Check.noSuch("setFeel", () -> x.setFeel(pattern, 3, 4));
      Check.noSuch("freeze", () -> x.freeze(pattern, true));
      Check.noSuch("addEntry", () -> x.addEntry(0, pattern, 1));
    }
    for (int pattern = 0; pattern <= 11; pattern++) {
      patternIsHeard(pattern);
    }
  }

  /** Each pattern has a swing, steps, a fill and kept tunes of its own, and no other one's. */
  private static void patternIsHeard(int heard) {
    BeatPages x = new BeatPages();
    for (int pattern = 0; pattern <= 11; pattern++) {
      x.setStep(pattern, 0, 3, pattern % 7);
      x.setStep(pattern, 3, 3, pattern % 7);
      x.setFill(pattern, 0, 13, pattern % 7);
      x.setFill(pattern, 3, 13, pattern % 7);
      x.setFeel(pattern, pattern % 6, 2);
      x.tune(pattern % 7, pattern);
      x.freeze(pattern, true);
    }
    for (int sample = 0; sample <= 6; sample++) {
      x.tune(sample, -12);
    }
    play(x, heard, heard);
    Check.due("the bar with a fill", x.barAt(0, 1), 10 * heard + 1);
    Check.due("steps and fill", x.beats(0), 6);
    Check.due("steps and fill", x.beatsByTicks(0), 6);
    Check.due("the step", x.nextUse(heard % 7), 36 + heard % 6);
    x.tick(192);
    Check.due("heard with the tune kept", x.soundNumber(), 32 * (100 * (heard % 7) + heard + 12));
    x.tick(37 + heard % 6);
    Check.due("the step of the fill", x.nextUse(heard % 7), 156 - 37);
    Check.due("the first bar's, and the second's", x.sounds(), 4);
    Check.due("and those of the fill", x.tick(191), 2);
    Check.due("nothing else", x.misses(), 0);
    for (int sample = 0; sample <= 7; sample++) {
      Check.due("loaded " + sample, x.loaded(sample), sample == heard % 7 ? 1 : 0);
    }
  }

  private static void tracksAndSteps() {
    Check.sentence("a pattern has 4 tracks of 16 steps, each with a sample or none (-1)");
    for (int pattern = 0; pattern <= 11; pattern++) {
      BeatPages x = new BeatPages();
      for (int at = 0; at < 64; at++) {
        Check.due("first", x.setStep(pattern, at / 16, at % 16, at % 8), -1);
      }
      for (int at = 0; at < 64; at++) {
        Check.due("its own", x.setStep(pattern, at / 16, at % 16, at % 9 - 1), at % 8);
      }
      for (int at = 0; at < 64; at++) {
        Check.due("a sample or none", x.setStep(pattern, at / 16, at % 16, -1), at % 9 - 1);
      }
      final int of = pattern;
      for (int step = 0; step < 16; step += 15) {
        final int at = step;
        Check.noSuch("track -1", () -> x.setStep(of, -1, at, 0));
        Check.noSuch("track 4", () -> x.setStep(of, 4, at, 0));
      }
      for (int track = 0; track < 4; track += 3) {
        final int at = track;
        Check.noSuch("step -1", () -> x.setStep(of, at, -1, 0));
        Check.noSuch("step 16", () -> x.setStep(of, at, 16, 0));
      }
    }
  }

  private static void stepsAtFirst() {
    Check.sentence("each with a sample or none (-1), as at first");
    for (int pattern = 0; pattern <= 11; pattern++) {
      BeatPages x = new BeatPages();
      play(x, pattern).tick(192);
      Check.due("no beats", x.beats(0), 0);
      Check.due("nothing is missed", x.misses(), 0);
      for (int at = 0; at < 64; at++) {
        Check.due("none at first", x.setStep(pattern, at / 16, at % 16, 0), -1);
      }
    }
  }

  private interface Setter {
    int set(int sample);
  }

  private static void samplesBeforeDue(Setter step) {
    for (int sample = 0; sample <= 7; sample++) {
      Check.due("the one before", step.set(sample), sample - 1);
    }
    Check.due("the same again", step.set(7), 7);
    Check.due("none", step.set(BeatPages.NONE), 7);
    Check.due("none again", step.set(BeatPages.NONE), BeatPages.NONE);
    Check.due("sample 0 is not none", step.set(0), BeatPages.NONE);
    Check.due("sample 0 is not none", step.set(1), 0);
  }

  private static void stepsBefore() {
    Check.sentence("Returns the sample before; NONE.");
    BeatPages x = new BeatPages();
    samplesBeforeDue(sample -> x.setStep(0, 0, 0, sample));
    samplesBeforeDue(sample -> x.setStep(11, 3, 15, sample));
  }

  private static void swings() {
    Check.sentence("a swing, 0 to 6 ticks, at first 0");
    BeatPages x = new BeatPages();
    for (int pattern = 0; pattern <= 11; pattern++) {
      final int of = pattern;
      Check.due("at first 0", x.setFeel(pattern, 6, 0), 0);
      Check.outOfRange("7", () -> x.setFeel(of, 7, 0));
      Check.due("6", x.setFeel(pattern, 0, 0), 6);
      Check.outOfRange("-1", () -> x.setFeel(of, -1, 0));
      Check.due("0", x.setFeel(pattern, 0, 0), 0);
    }
    BeatPages y = new BeatPages();
    y.setStep(0, 0, 1, 0);
    Check.due("no swing is heard at first", play(y, 0).nextUse(0), 12);
  }

  private static void swingsBefore() {
    Check.sentence("Returns the swing before.");
    BeatPages x = new BeatPages();
    for (int swing = 0; swing <= 6; swing++) {
      Check.due("the swing before, not how often the fill comes", x.setFeel(3, swing, 8), Math.max(swing - 1, 0));
    }
    Check.due("the same again", x.setFeel(3, 6, 0), 6);
    Check.due("of another", x.setFeel(4, 6, 0), 0);
  }

  private static void swingAndEveryTogether() {
    Check.sentence("Throws `IllegalArgumentException` if swing or every is out of range");
    BeatPages x = new BeatPages();
    x.addEntry(0, 2, 4);
    x.setFeel(2, 3, 4);
    Check.outOfRange("every alone", () -> x.setFeel(2, 5, 1));
    Check.due("the swing stays, too", x.setFeel(2, 3, 4), 3);
    Check.outOfRange("swing alone", () -> x.setFeel(2, 7, 2));
    Check.due("every stays, too", x.barAt(0, 1), 20);
    Check.due("every stays, too", x.barAt(0, 3), 21);
    Check.outOfRange("both", () -> x.setFeel(2, -1, 9));
    Check.due("both stay", x.setFeel(2, 0, 0), 3);
  }

  private static void fillSteps() {
    Check.sentence("a fill: samples or none for the steps 12 to 15 of its tracks");
    for (int pattern = 0; pattern <= 11; pattern++) {
      BeatPages x = new BeatPages();
      for (int at = 0; at < 16; at++) {
        Check.due("first", x.setFill(pattern, at / 4, 12 + at % 4, at % 8), -1);
      }
      for (int at = 0; at < 16; at++) {
        Check.due("its own", x.setFill(pattern, at / 4, 12 + at % 4, at % 9 - 1), at % 8);
        Check.due("not the step's", x.setStep(pattern, at / 4, 12 + at % 4, 5), -1);
      }
      for (int at = 0; at < 16; at++) {
        Check.due("a sample or none", x.setFill(pattern, at / 4, 12 + at % 4, -1), at % 9 - 1);
        Check.due("not the fill's", x.setStep(pattern, at / 4, 12 + at % 4, -1), 5);
      }
      final int of = pattern;
      for (int track = 0; track < 4; track += 3) {
        final int at = track;
        Check.noSuch("step 11", () -> x.setFill(of, at, 11, 0));
        Check.noSuch("step 16", () -> x.setFill(of, at, 16, 0));
      }
      Check.noSuch("track -1", () -> x.setFill(of, -1, 15, 0));
      Check.noSuch("track 4", () -> x.setFill(of, 4, 12, 0));
    }
  }

  private static void fillsAtFirst() {
    Check.sentence("at first none, and every how many bars it comes");
    for (int pattern = 0; pattern <= 11; pattern++) {
      BeatPages x = new BeatPages();
      for (int at = 0; at < 16; at++) {
        x.setStep(pattern, at / 4, 12 + at % 4, 0);
      }
      x.setFeel(pattern, 0, 2);
      x.addEntry(0, pattern, 2);
      Check.due("none in the second bar", x.beats(0), 16);
      for (int at = 0; at < 16; at++) {
        Check.due("none", x.setFill(pattern, at / 4, 12 + at % 4, 0), -1);
      }
      Check.due("all in the second bar", x.beats(0), 32);
    }
  }

  private static void fillsBefore() {
    Check.sentence("Sets a step of the fill of a pattern.");
    BeatPages x = new BeatPages();
    samplesBeforeDue(sample -> x.setFill(0, 0, 12, sample));
    samplesBeforeDue(sample -> x.setFill(11, 3, 15, sample));
  }

  private static void fillBars() {
    Check.sentence("and every how many bars it comes, 2 to 8, or never (0)");
    for (int pattern = 0; pattern <= 11; pattern++) {
      BeatPages x = new BeatPages();
      final int of = pattern;
      x.addEntry(0, pattern, 4);
      x.jump(0, 0, 0, 3);
      for (int every : new int[] {2, 8}) {
        Check.answers("every", () -> x.setFeel(of, 0, every));
        for (int wrong : new int[] {-1, 1, 9}) {
          Check.outOfRange("every", () -> x.setFeel(of, 0, wrong));
        }
        Check.due("one bar too early", x.barAt(0, every - 2), 10 * pattern);
        Check.due("every so many bars", x.barAt(0, every - 1), 10 * pattern + 1);
        Check.due("one bar too late", x.barAt(0, every), 10 * pattern);
      }
      Check.answers("never", () -> x.setFeel(of, 0, 0));
      Check.outOfRange("every", () -> x.setFeel(of, 0, 1));
      for (int bar = 0; bar < 16; bar++) {
        Check.due("never", x.barAt(0, bar), 10 * pattern);
      }
    }
  }

  private static void noFillBarsAtFirst() {
    Check.sentence("or never (0), as at first");
    for (int pattern = 0; pattern <= 11; pattern++) {
      BeatPages x = new BeatPages();
      for (int entry = 0; entry < 8; entry++) {
        x.addEntry(5, pattern, 4);
      }
      x.jump(5, 7, 0, 1);
      for (int bar = 0; bar < 64; bar++) {
        Check.due("never at first", x.barAt(5, bar), 10 * pattern);
      }
    }
  }

  private static void ticksOfABar() {
    Check.sentence("A bar has 192 ticks, from 0 on");
    BeatPages x = play(new BeatPages(), 0, 0);
    for (int tick = 0; tick < 192; tick++) {
      Check.due("tick by tick", x.place(), tick);
      x.tick(1);
    }
    Check.due("the next bar", x.place(), 1000);
    x.tick(191);
    Check.due("its last tick", x.place(), 1191);
    x.tick(1);
    Check.due("over", x.place(), -1);
  }

  private static void beginsAt(int step, int swing, int tick) {
    BeatPages x = new BeatPages();
    x.setFeel(0, swing, 0);
    x.setStep(0, 3, step, 6);
    play(x, 0);
    String told = "step " + step + " with swing " + swing;
    Check.due(told + " is due", x.nextUse(6), tick == 0 ? -1 : tick);
    if (tick > 0) {
      x.tick(tick);
    }
    Check.due(told + ", one tick too early", x.sounds() + x.misses(), 0);
    x.tick(1);
    Check.due(told + ", at its tick", x.sounds() + x.misses(), 1);
    x.tick(191 - tick);
    Check.due(told + ", in one bar", x.sounds() + x.misses(), 1);
  }

  private static void evenSteps() {
    Check.sentence("the step s begins at the tick 12 times s");
    for (int swing = 0; swing <= 6; swing++) {
      for (int step = 0; step <= 14; step += 2) {
        beginsAt(step, swing, 12 * step);
      }
    }
  }

  private static void oddSteps() {
    Check.sentence("and, if s is odd, the swing, added.");
    for (int swing = 0; swing <= 6; swing++) {
      for (int step = 1; step <= 15; step += 2) {
        beginsAt(step, swing, 12 * step + swing);
      }
    }
  }

  /** Each of the eight samples is used once, by rising numbers, by steps that begin when all are loaded. */
  private static BeatPages allSamples(int pattern) {
    BeatPages x = new BeatPages();
    for (int sample = 0; sample <= 7; sample++) {
      x.setStep(pattern, sample % 4, 8 + sample, sample);
    }
    return x;
  }

  private static int heardOf(int... tunes) {
    int number = 0;
    for (int sample = 0; sample < tunes.length; sample++) {
      number = 31 * number + 100 * sample + tunes[sample] + 12;
    }
    return number;
  }

  private static void tuneAll(BeatPages x, int... tunes) {
    for (int sample = 0; sample < tunes.length; sample++) {
      x.tune(sample, tunes[sample]);
    }
  }

  private static void frozenKeepsAllTunes() {
    Check.sentence("A pattern that is frozen keeps the tunes that all samples have when it is frozen");
    for (int pattern = 0; pattern <= 11; pattern++) {
      BeatPages x = allSamples(pattern);
      tuneAll(x, -12, 12, -1, 1, 0, 11, -11, 12);
      x.freeze(pattern, true);
      tuneAll(x, 12, -12, 1, -1, 5, -11, 11, -12);
      Check.due("all sound", play(x, pattern).tick(192), 8);
      Check.due("with the tunes kept", x.soundNumber(), heardOf(-12, 12, -1, 1, 0, 11, -11, 12));
    }
    BeatPages y = allSamples(0);
    y.freeze(0, true);
    tuneAll(y, 1, 2, 3, 4, 5, 6, 7, 8);
    play(y, 0).tick(192);
    Check.due("tunes that are as at first are kept, too", y.soundNumber(), heardOf(0, 0, 0, 0, 0, 0, 0, 0));
  }

  private static void frozenKeepsWhatIsRetuned() {
    Check.sentence("it has these, whatever is retuned");
    BeatPages x = allSamples(4);
    x.freeze(4, true);
    for (int tune = -12; tune <= 12; tune++) {
      tuneAll(x, tune, tune, tune, tune, tune, tune, tune, tune);
    }
    x.freeze(5, true);
    x.freeze(3, true);
    x.freeze(3, false);
    play(x, 4).tick(192);
    Check.due("nor if others are frozen and thawed", x.soundNumber(), heardOf(0, 0, 0, 0, 0, 0, 0, 0));
  }

  private static void frozenUntilThawed() {
    Check.sentence("until it is thawed.");
    BeatPages x = allSamples(11);
    tuneAll(x, 1, 1, 1, 1, 1, 1, 1, 1);
    x.freeze(11, true);
    tuneAll(x, 2, 2, 2, 2, 2, 2, 2, 2);
    x.freeze(11, false);
    play(x, 11).tick(192);
    Check.due("thawed, it has the tunes of now", x.soundNumber(), heardOf(2, 2, 2, 2, 2, 2, 2, 2));
  }

  private static void frozenAlready() {
    Check.sentence("whether it is frozen from now on; if it is so already, it keeps the tunes that it has");
    BeatPages x = allSamples(2);
    tuneAll(x, 3, 3, 3, 3, 3, 3, 3, 3);
    Check.due("was not", x.freeze(2, true), false);
    tuneAll(x, 4, 4, 4, 4, 4, 4, 4, 4);
    Check.due("was", x.freeze(2, true), true);
    play(x, 2).tick(192);
    Check.due("frozen already", x.soundNumber(), heardOf(3, 3, 3, 3, 3, 3, 3, 3));
    BeatPages y = allSamples(2);
    Check.due("was not", y.freeze(2, false), false);
    tuneAll(y, 4, 4, 4, 4, 4, 4, 4, 4);
    play(y, 2).tick(192);
    Check.due("thawed already", y.soundNumber(), heardOf(4, 4, 4, 4, 4, 4, 4, 4));
  }

  private static void frozenInTheMidstOfABar() {
    Check.sentence("Freezes a pattern, with the tunes of now, or thaws it.");
    BeatPages x = allSamples(1);
    play(x, 1);
    int[] tunes = {1, 2, 3, 4, 4, 4, 7, 8};
    for (int sample = 0; sample <= 7; sample++) {
      int tune = sample + 1;
      tuneAll(x, tune, tune, tune, tune, tune, tune, tune, tune);
      if (sample == 3) {
        x.freeze(1, true);
      }
      if (sample == 6) {
        x.freeze(1, false);
      }
      x.tick(sample == 0 ? 97 : 12);
    }
    Check.due("frozen from the fourth sound to the sixth", x.soundNumber(), heardOf(tunes));
  }

  private static void frozenBefore() {
    Check.sentence("Returns whether it was.");
    BeatPages x = new BeatPages();
    for (int pattern = 0; pattern <= 11; pattern++) {
      Check.due("not at first", x.freeze(pattern, false), false);
      Check.due("not yet", x.freeze(pattern, true), false);
    }
    for (int pattern = 0; pattern <= 11; pattern++) {
      Check.due("it was", x.freeze(pattern, true), true);
      Check.due("it still was", x.freeze(pattern, false), true);
      Check.due("no more", x.freeze(pattern, false), false);
    }
  }

  private static void none() {
    Check.sentence("`NONE = -1`: There is none.");
    Check.due("NONE", BeatPages.NONE, -1);
  }
}
