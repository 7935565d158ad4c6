/** The edges of the set, of the terms and of promises 14 to 19: a method for each sentence. */
final class EdgesOfSetTest {
  public static void main(String[] args) {
    eightSongs();
    howManyThen();
    emptied();
    nothingIsLeft();
    eachHasABar();
    emptySet();
    whenItIsStarted();
    nothingChangesWhilePlayed();
    whatCanChangeWhilePlayed();
    changedAfterTheSet();
    emptyMemoryAtTheFirstTick();
    noPageInHandAtTheFirstTick();
    whatGoesOn();
    howManyBars();
    ticks();
    soundsOfTicks();
    restOfTheTicks();
    endOfABar();
    endOfASong();
    endOfTheSet();
    skips();
    skipsOfTheLast();
    skipAnswers();
    memoryOfSkips();
    handOfSkips();
    places();
    noPlace();
    calls512();
    Check.finish("EdgesOfSetTest");
  }

  /** Song s has s + 1 bars of the pattern s, which has the sample s at the step 4. */
  private static BeatPages songs(int... set) {
    BeatPages x = new BeatPages();
    for (int song = 0; song <= 3; song++) {
      x.addEntry(song, song, song + 1);
      x.setStep(song, song, 4, song);
    }
    for (int song : set) {
      x.addToSet(song);
    }
    return x;
  }

  private static BeatPages started(int... set) {
    BeatPages x = songs(set);
    x.start();
    return x;
  }

  /** A song of the pattern 11, of 64 bars. */
  private static BeatPages longest(int song, int places) {
    BeatPages x = new BeatPages();
    for (int entry = 0; entry < 8; entry++) {
      x.addEntry(song, 11, 4);
    }
    x.jump(song, 7, 0, 3);
    for (int place = 0; place < places; place++) {
      x.addToSet(song);
    }
    return x;
  }

  private static void eightSongs() {
    Check.sentence("The set list is a row of at most 8 songs");
    BeatPages x = songs(0, 1, 2, 3, 0, 1, 2);
    Check.due("the eighth", x.addToSet(3), 8);
    for (int song = 0; song <= 5; song++) {
      final int of = song;
      Check.notNow("a ninth", () -> x.addToSet(of));
    }
    Check.due("bars of eight", x.start(), 20);
    for (int place = 1; place <= 7; place++) {
      Check.due("eight places", x.skip(), place);
    }
    Check.due("no ninth", x.skip(), -1);
    Check.notNow("it stays full", () -> x.addToSet(0));
    Check.due("all of them", x.clearSet(), 8);
    for (int count = 1; count <= 8; count++) {
      Check.due("room again", x.addToSet(0), count);
    }
    Check.notNow("and full again", () -> x.addToSet(0));
  }

  private static void howManyThen() {
    Check.sentence("Returns how many songs it has then.");
    BeatPages x = new BeatPages();
    for (int count = 1; count <= 8; count++) {
      Check.due("with one more, bars or not", x.addToSet(5), count);
    }
  }

  private static void emptied() {
    Check.sentence("Returns how many songs it had.");
    BeatPages x = songs();
    Check.due("none at first", x.clearSet(), 0);
    for (int count = 0; count <= 8; count++) {
      for (int i = 0; i < count; i++) {
        x.addToSet(1);
      }
      Check.due("so many", x.clearSet(), count);
      Check.due("none then", x.clearSet(), 0);
      Check.notNow("empty", x::start);
    }
  }

  private static void nothingIsLeft() {
    Check.sentence("Empties the set list.");
    BeatPages x = songs(3, 4, 1);
    x.clearSet();
    x.addToSet(0);
    Check.due("the song without bars is gone", x.start(), 1);
    Check.due("and those with bars", x.skip(), -1);
    x.clearSet();
    x.addToSet(3);
    x.addToSet(1);
    x.clearSet();
    x.addToSet(0);
    x.start();
    Check.due("behind the one song none is seen", x.nextUse(1), -1);
    Check.due("nor heard", x.tick(2000), 1);
    Check.due("over", x.place(), -1);
  }

  private static void eachHasABar() {
    Check.sentence("of which each has a bar at least when the set is started.");
    Check.due("one song of one bar", songs(0).start(), 1);
    int[][] sets = {{4}, {4, 0}, {0, 4}, {0, 4, 1}, {0, 1, 2, 3, 0, 1, 2, 4}, {4, 0, 1, 2, 3, 0, 1, 2}, {4, 5}};
    for (int[] set : sets) {
      BeatPages x = songs(set);
      Check.notNow("a song without bars", x::start);
      Check.due("not played", x.place(), -1);
      Check.due("the list is as before", x.clearSet(), set.length);
    }
  }

  private static void emptySet() {
    Check.sentence("Throws `IllegalStateException` if it is played, is empty, or one of its songs has no bar");
    BeatPages x = songs();
    Check.notNow("it is empty", x::start);
    x.addToSet(0);
    Check.due("it has one", x.start(), 1);
    Check.notNow("it is played", x::start);
    x.tick(191);
    Check.notNow("up to its last tick", x::start);
    Check.due("which is due still", x.place(), 191);
    x.tick(1);
    Check.due("it is over", x.start(), 1);
    x.skip();
    x.clearSet();
    Check.notNow("it is empty again", x::start);
  }

  private static void whenItIsStarted() {
    Check.sentence("of which each has a bar at least when the set is started");
    BeatPages x = songs(4, 0, 5);
    Check.notNow("two have none", x::start);
    x.addEntry(4, 7, 1);
    Check.notNow("one has none", x::start);
    x.addEntry(5, 8, 1);
    Check.due("then all have one", x.start(), 3);
  }

  private static void nothingChangesWhilePlayed() {
    Check.sentence("While the set is played, no pattern, song, size or set list can be changed");
    for (int ticks : new int[] {0, 1, 100, 191}) {
      BeatPages x = started(0);
      if (ticks > 0) {
        x.tick(ticks);
      }
      for (int same = 0; same <= 1; same++) {
        final int other = same;
        Check.notNow("setSize", () -> x.setSize(7, 1 + other));
        Check.notNow("setStep", () -> x.setStep(11, 0, 0, -1 + other));
        Check.notNow("setFill", () -> x.setFill(11, 0, 12, -1 + other));
        Check.notNow("setFeel", () -> x.setFeel(11, other, 0));
        Check.notNow("addEntry", () -> x.addEntry(4 + other, 0, 1));
        Check.notNow("jump", () -> x.jump(3, 0, 0, other));
        Check.notNow("addToSet", () -> x.addToSet(other));
      }
      Check.notNow("clearSet", x::clearSet);
      Check.due("it is played on", x.place(), ticks);
    }
  }

  private static void whatCanChangeWhilePlayed() {
    Check.sentence("tunes can, and patterns can be frozen and thawed");
    BeatPages x = started(0, 1);
    for (int at = 0; at <= 7; at++) {
      Check.due("tune", x.tune(at, 12), 0);
      Check.due("freeze", x.freeze(at, true), false);
      Check.due("tune again", x.tune(at, -12), 12);
      Check.due("thaw", x.freeze(at, false), true);
    }
    Check.due("it is played on", x.place(), 0);
    Check.outOfRange("within their ranges alone", () -> x.tune(0, 13));
    Check.noSuch("within their ranges alone", () -> x.freeze(12, true));
  }

  private static void changedAfterTheSet() {
    Check.sentence("behind the last bar of the set the set is over.");
    for (int way = 0; way <= 1; way++) {
      BeatPages x = started(0);
      if (way == 0) {
        x.skip();
      } else {
        x.tick(192);
      }
      Check.due("setSize", x.setSize(7, 6), 1);
      Check.due("setStep", x.setStep(11, 0, 0, 3), -1);
      Check.due("setFill", x.setFill(11, 0, 12, 4), -1);
      Check.due("setFeel", x.setFeel(11, 6, 8), 0);
      Check.due("addEntry", x.addEntry(0, 11, 1), 1);
      Check.due("jump", x.jump(0, 0, 0, 1), 3);
      Check.due("addToSet", x.addToSet(1), 2);
      Check.due("and heard when it is started again", x.start(), 5);
      Check.due("and heard when it is started again", x.nextUse(3), 384);
      x.skip();
      x.skip();
      Check.due("clearSet", x.clearSet(), 2);
    }
  }

  private static void emptyMemoryAtTheFirstTick() {
    Check.sentence("A set begins with an empty memory at the tick 0 of its first bar");
    BeatPages x = songs(3, 1);
    x.setSize(3, 6);
    x.setStep(3, 0, 5, 1);
    for (int round = 0; round < 3; round++) {
      x.start();
      Check.due("the first tick", x.place(), 0);
      for (int sample = 0; sample <= 7; sample++) {
        Check.due("empty", x.loaded(sample), 0);
      }
      Check.due("not empty any more", x.tick(200), 2);
      Check.due("not empty any more", x.loaded(3), 6);
      x.skip();
      x.skip();
    }
    BeatPages y = started(0);
    Check.due("what was loaded is not there", y.tick(192), 1);
    y.setStep(0, 3, 0, 0);
    y.start();
    Check.due("what was loaded is not there", y.tick(1), 0);
    Check.due("and missed", y.misses(), 1);
  }

  private static void noPageInHandAtTheFirstTick() {
    Check.sentence("A set begins with an empty memory");
    BeatPages x = started(0);
    for (int work = 1; work <= 7; work++) {
      x.tick(work);
      x.skip();
      Check.due("in hand when it is over", x.inHand(), work);
      x.start();
      Check.due("none in hand when it begins", x.inHand(), -1);
      x.tick(7);
      Check.due("worked on from the beginning", x.loaded(0), 0);
      x.skip();
      x.start();
      x.tick(8);
      Check.due("for 8 ticks", x.loaded(0), 1);
      x.skip();
      x.start();
    }
  }

  private static void whatGoesOn() {
    Check.sentence("Sounds, misses and the sound number go on from what they were.");
    BeatPages x = songs(1);
    x.setStep(1, 0, 0, 5);
    int number = 0;
    for (int round = 1; round <= 4; round++) {
      x.start();
      x.tick(384);
      number = 31 * (31 * (31 * number + 112) + 512) + 112;
      Check.due("sounds", x.sounds(), 3 * round);
      Check.due("misses", x.misses(), round);
      Check.due("the sound number", x.soundNumber(), number);
      x.start();
      Check.due("sounds", x.sounds(), 3 * round);
      Check.due("misses", x.misses(), round);
      Check.due("the sound number", x.soundNumber(), number);
      x.skip();
    }
  }

  private static void howManyBars() {
    Check.sentence("Returns how many bars it has.");
    Check.due("the least", songs(0).start(), 1);
    Check.due("each song as often as it is there", songs(3, 0, 3, 1).start(), 11);
    Check.due("one of 64", longest(5, 1).start(), 64);
    Check.due("the most", longest(0, 8).start(), 512);
  }

  private static void ticks() {
    Check.sentence("`ticks`: 1 to 2000");
    BeatPages x = longest(2, 1);
    x.start();
    x.tick(1);
    Check.due("1", x.place(), 1);
    for (int ticks : new int[] {0, -1, 2001}) {
      Check.outOfRange("ticks", () -> x.tick(ticks));
    }
    Check.due("none passed", x.place(), 1);
    x.tick(2000);
    Check.due("2000", x.place(), 10000 + 81);
    x.tick(1999);
    Check.due("1999", x.place(), 20000 + 160);
  }

  private static void soundsOfTicks() {
    Check.sentence("Returns how many samples sound in them.");
    BeatPages x = new BeatPages();
    for (int track = 0; track <= 3; track++) {
      x.setStep(0, track, 4, track);
      x.setStep(0, track, 15, 7);
    }
    x.setSize(7, 6);
    x.setStep(0, 2, 0, 6);
    x.addEntry(0, 0, 2);
    x.addToSet(0);
    x.start();
    Check.due("one is missed", x.tick(48), 0);
    Check.due("four at one tick", x.tick(1), 4);
    Check.due("none at the next one", x.tick(1), 0);
    Check.due("up to the tick before", x.tick(130), 0);
    Check.due("one sample four times", x.tick(1), 4);
    Check.due("from one bar to the next", x.tick(192 - 181 + 1), 1);
    Check.due("all of the rest", x.tick(2000), 8);
    Check.due("all in all", x.sounds(), 17);
    Check.due("one missed", x.misses(), 1);
  }

  private static void restOfTheTicks() {
    Check.sentence("Lets ticks pass; when the set is over, the rest of them does nothing.");
    for (int more : new int[] {0, 1, 2, 192, 2000 - 192}) {
      BeatPages x = songs(0);
      x.setStep(0, 3, 0, 0);
      x.start();
      Check.due("the set, and " + more + " more", x.tick(192 + more), 1);
      Check.due("over", x.place(), -1);
      Check.due("not heard anew", x.sounds() + x.misses(), 2);
      Check.due("as it was then", x.loaded(0), 1);
      Check.due("as it was then", x.inHand(), -1);
      Check.notNow("no more ticks", () -> x.tick(1));
    }
    BeatPages y = started(0);
    Check.due("all but one", y.tick(191), 1);
    Check.due("played still", y.place(), 191);
    Check.due("of 2000 the one that is left", y.tick(2000), 0);
    Check.due("over", y.place(), -1);
  }

  private static void endOfABar() {
    Check.sentence("The next tick is due; behind the last tick of a bar, the first one of the next bar of the song");
    BeatPages x = started(3);
    for (int bar = 0; bar <= 3; bar++) {
      Check.due("the first tick", x.place(), 1000 * bar);
      x.tick(1);
      Check.due("the next one", x.place(), 1000 * bar + 1);
      x.tick(190);
      Check.due("the last one", x.place(), 1000 * bar + 191);
      x.tick(1);
    }
    Check.due("over", x.place(), -1);
  }

  private static void endOfASong() {
    Check.sentence("or of the next song");
    BeatPages x = started(1, 0, 0, 2);
    int[] bars = {2, 1, 1, 3};
    for (int place = 0; place <= 3; place++) {
      Check.due("the first bar's first tick", x.place(), 100000 * place);
      Check.due("its step is seen", x.nextUse(new int[] {1, 0, 0, 2}[place]), 48);
      x.tick(192 * bars[place] - 1);
      Check.due("the last bar's last tick", x.place(), 100000 * place + 1000 * bars[place] - 1000 + 191);
      x.tick(1);
    }
    Check.due("over", x.place(), -1);
    Check.due("all heard", x.sounds(), 7);
  }

  private static void endOfTheSet() {
    Check.sentence("behind the last bar of the set the set is over");
    BeatPages x = longest(4, 8);
    x.setStep(11, 0, 15, 7);
    x.start();
    for (int call = 0; call < 49; call++) {
      x.tick(2000);
    }
    x.tick(512 * 192 - 49 * 2000 - 1);
    Check.due("the last tick of the longest set", x.place(), 763191);
    Check.due("all of it was heard", x.sounds(), 512);
    x.tick(1);
    Check.due("over", x.place(), -1);
    Check.notNow("over", () -> x.tick(1));
    Check.notNow("over", x::skip);
    Check.due("it can be started again", x.start(), 512);
  }

  private static void skips() {
    Check.sentence("Skips the rest of the song: the first tick of the next song is due");
    for (int ticks : new int[] {0, 1, 191, 192, 575}) {
      BeatPages x = started(2, 2, 1);
      if (ticks > 0) {
        x.tick(ticks);
      }
      int sounds = x.sounds();
      Check.due("behind " + ticks + " ticks", x.skip(), 1);
      Check.due("its first tick", x.place(), 100000);
      Check.due("of its first bar", x.nextUse(2), 48);
      Check.due("the rest is not heard", x.sounds(), sounds);
      Check.due("nor missed", x.misses(), 0);
      x.tick(3 * 192);
      Check.due("all of it is played", x.place(), 200000);
    }
    BeatPages y = started(2, 0);
    y.tick(3 * 192);
    Check.due("a song that is over is not skipped again", y.place(), 100000);
    Check.due("but the one that is due", y.skip(), -1);
  }

  private static void skipsOfTheLast() {
    Check.sentence("behind the last song the set is over.");
    BeatPages x = started(0);
    Check.due("of one song", x.skip(), -1);
    Check.due("over", x.place(), -1);
    Check.notNow("over", x::skip);
    Check.notNow("over", () -> x.tick(1));
    Check.due("no next use", x.nextUse(0), -1);
    Check.due("it can be changed", x.clearSet(), 1);
    BeatPages y = started(0, 3);
    y.skip();
    y.tick(4 * 192 - 1);
    Check.due("at its last tick", y.skip(), -1);
    Check.due("over", y.place(), -1);
  }

  private static void skipAnswers() {
    Check.sentence("Returns the place in the set list of the song that is due; NONE if the set is over.");
    BeatPages x = started(3, 3, 3, 3, 3, 3, 3, 3);
    for (int place = 1; place <= 7; place++) {
      Check.due("the place, not the song", x.skip(), place);
    }
    Check.due("over", x.skip(), BeatPages.NONE);
  }

  private static void memoryOfSkips() {
    Check.sentence("The memory, and the page in hand, stay.");
    BeatPages x = songs(0, 1, 0);
    x.setSize(0, 2);
    x.setStep(1, 0, 0, 0);
    x.start();
    x.tick(16);
    Check.due("two pages", x.loaded(0), 2);
    x.skip();
    Check.due("they stay", x.loaded(0), 2);
    Check.due("and sound at once", x.tick(1), 1);
    x.skip();
    Check.due("they stay", x.loaded(0), 2);
    x.skip();
    Check.due("also when the set is over", x.loaded(0), 2);
  }

  private static void handOfSkips() {
    Check.sentence("and the page in hand, stay");
    for (int work = 1; work <= 7; work++) {
      BeatPages x = songs(1, 0, 2);
      x.start();
      x.tick(work);
      x.skip();
      Check.due("in hand as before", x.inHand(), 10 + work);
      x.skip();
      Check.due("in hand as before", x.inHand(), 10 + work);
      Check.due("though it has no next use", x.nextUse(1), -1);
      if (work < 7) {
        x.tick(7 - work);
      }
      Check.due("worked on", x.inHand(), 17);
      x.tick(1);
      Check.due("behind its 8th tick of work", x.loaded(1), 1);
      Check.due("none in hand", x.inHand(), -1);
    }
  }

  private static void places() {
    Check.sentence("Returns 100000 times the place in the set list, 1000 times the bar, and the tick, added");
    BeatPages x = started(3, 3, 3, 3, 3, 3, 3, 3);
    x.tick(1);
    Check.due("a tick", x.place(), 1);
    x.tick(192);
    Check.due("a bar and a tick", x.place(), 1001);
    for (int place = 1; place <= 7; place++) {
      x.skip();
      x.tick(192 * (place % 4) + 1 + 190 * (place % 2));
      Check.due("place, bar and tick", x.place(), 100000 * place + 1000 * (place % 4) + 1 + 190 * (place % 2));
    }
  }

  private static void noPlace() {
    Check.sentence("NONE if it is not played.");
    BeatPages x = songs();
    Check.due("a new object", x.place(), BeatPages.NONE);
    x.addToSet(0);
    Check.due("not started", x.place(), BeatPages.NONE);
    x.start();
    Check.due("started", x.place(), 0);
    x.tick(192);
    Check.due("over", x.place(), BeatPages.NONE);
    x.start();
    Check.due("started", x.place(), 0);
    x.skip();
    Check.due("skipped", x.place(), BeatPages.NONE);
  }

  private static void calls512() {
    Check.sentence("An object is used for at most 512 calls after it has been made");
    BeatPages x = songs(3, 3, 3);
    x.start();
    for (int call = 13; call <= 511; call++) {
      x.tick(1);
    }
    Check.due("the 512th call", x.place(), 2000 + 115);
    BeatPages y = longest(0, 8);
    y.start();
    for (int call = 19; call <= 511; call++) {
      y.tick(199);
    }
    Check.due("the 512th call", y.place(), 700000 + 62000 + 187);
    BeatPages z = new BeatPages();
    for (int call = 1; call <= 511; call++) {
      Check.noSuch("refused", () -> z.setSize(8, 1));
    }
    Check.due("the 512th call", z.addEntry(0, 0, 1), 0);
  }
}
