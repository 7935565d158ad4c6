/** Promises 20 to 25: the memory, the loader, and what is heard. */
final class MemoryTest extends Ways {
  private static final int FAR = Integer.MAX_VALUE;
  private static final int NEAR = Integer.MIN_VALUE;

  public static void main(String[] args) {
    refusals();
    loadedPageByPage();
    inHand();
    nearestFirst();
    ofSeveralTheLowest();
    nextUse();
    nextUseOverSongs();
    nextUseInFills();
    onlyThePatternsThatAreHeard();
    usedAtThisTickIsNotNext();
    throwsOutTheFarthest();
    ofSeveralTheHighestGoes();
    throwsOutWhatHasNoUse();
    notForAFartherOne();
    notForOneAsFar();
    aSinglePageMayGo();
    nothingGoesForNothing();
    startEmptiesAFullMemory();
    heardOnlyIfWhole();
    tracksByRisingNumbers();
    soundNumberIsAnInt();
    afterTheSet();
    Check.finish("MemoryTest");
  }

  private static void refusals() {
    BeatPages x = withSteps(at(0, 0, 4, 0));
    for (int round = 0; round < 2; round++) {
      for (int sample : new int[] {-1, 8, FAR, NEAR}) {
        Check.noSuch("loaded", () -> x.loaded(sample));
        Check.noSuch("nextUse", () -> x.nextUse(sample));
      }
      if (round == 0) {
        play(x, 0);
      }
    }
  }

  private static void loadedPageByPage() {
    for (int size = 1; size <= 6; size++) {
      BeatPages x = withSteps(at(0, 0, 8, 3));
      x.setSize(3, size);
      play(x, 0);
      for (int ticks = 1; ticks <= 60; ticks++) {
        x.tick(1);
        Check.due("loaded of " + size, x.loaded(3), Math.min(ticks / 8, size));
      }
    }
  }

  private static void inHand() {
    BeatPages x = withSteps(at(0, 0, 8, 7), at(0, 0, 9, 2));
    x.setSize(7, 2);
    play(x, 0);
    Check.due("none at first", x.inHand(), -1);
    int[] due = {71, 72, 73, 74, 75, 76, 77, -1, 71, 72, 73, 74, 75, 76, 77, -1, 21, 22, 23, 24, 25, 26, 27, -1};
    for (int want : due) {
      x.tick(1);
      Check.due("inHand", x.inHand(), want);
    }
    x.tick(1);
    Check.due("nothing left to load", x.inHand(), -1);
  }

  private static void nearestFirst() {
    BeatPages x = withSteps(at(0, 0, 9, 0), at(0, 3, 5, 6), at(0, 1, 7, 3));
    sizes(x, 2, 1, 1, 1, 1, 1, 1, 1);
    play(x, 0);
    x.tick(8);
    loadedDue("first", x, 0, 0, 0, 0, 0, 0, 1, 0);
    x.tick(8);
    loadedDue("second", x, 0, 0, 0, 1, 0, 0, 1, 0);
    x.tick(16);
    loadedDue("third", x, 2, 0, 0, 1, 0, 0, 1, 0);
    BeatPages y = withSteps(at(0, 0, 9, 0), at(0, 0, 1, 1), at(0, 0, 2, 2));
    sizes(y, 6, 1, 6);
    play(y, 0);
    y.tick(12);
    loadedDue("a page in hand is worked on to its end", y, 0, 1, 0);
    Check.due("in hand", y.inHand(), 24);
    y.tick(13);
    Check.due("behind the use another is nearer", y.inHand(), 1);
  }

  private static void ofSeveralTheLowest() {
    BeatPages x = withSteps(at(0, 0, 4, 6), at(0, 1, 4, 5), at(0, 2, 4, 7));
    play(x, 0);
    x.tick(1);
    Check.due("the lowest one", x.inHand(), 51);
    x.tick(8);
    Check.due("then the next", x.inHand(), 61);
    x.tick(8);
    Check.due("then the last", x.inHand(), 71);
  }

  private static void nextUse() {
    BeatPages x = withSteps(at(0, 0, 4, 0), at(0, 1, 8, 0), at(1, 0, 15, 1),
        at(2, 3, 0, 2), at(3, 0, 15, 3), at(4, 0, 0, 4));
    x.setFeel(3, 6, 0);
    Check.due("before the set", x.nextUse(0), -1);
    play(x, 0, 1, 2, 3, 4);
    Check.due("in this bar", x.nextUse(0), 48);
    Check.due("in the next bar", x.nextUse(1), 192 + 180);
    Check.due("two bars on", x.nextUse(2), 384);
    Check.due("the last tick that can be seen", x.nextUse(3), 576 + 186);
    Check.due("a fourth bar is not seen", x.nextUse(4), -1);
    Check.due("never used", x.nextUse(5), -1);
    x.tick(48);
    Check.due("used at the tick that is due: the next one", x.nextUse(0), 48);
    x.tick(48);
    Check.due("no more", x.nextUse(0), -1);
    x.tick(95);
    Check.due("from the last tick of the bar", x.nextUse(1), 1 + 180);
    Check.due("not yet seen", x.nextUse(4), -1);
    x.tick(1);
    Check.due("seen", x.nextUse(4), 576);
    Check.due("from the first tick of the bar", x.nextUse(1), 180);
    x.tick(191);
    Check.due("one tick", x.nextUse(2), 1);
    x.tick(1);
    Check.due("not the tick that is due itself", x.nextUse(2), -1);
  }

  private static void nextUseOverSongs() {
    BeatPages x = withSteps(at(0, 0, 2, 0), at(1, 0, 2, 1), at(2, 0, 2, 2),
        at(3, 0, 2, 3), at(4, 0, 2, 4));
    for (int song = 0; song < 5; song++) {
      x.addEntry(song, song, 1);
      x.addToSet(song);
    }
    x.start();
    Check.due("of the next song", x.nextUse(1), 192 + 24);
    Check.due("of the second next song", x.nextUse(2), 384 + 24);
    Check.due("of the third next song", x.nextUse(3), 576 + 24);
    Check.due("too far", x.nextUse(4), -1);
    x.skip();
    x.skip();
    Check.due("skipped songs are not heard", x.nextUse(1), -1);
    Check.due("this song", x.nextUse(2), 24);
    Check.due("up to the end of the set", x.nextUse(4), 384 + 24);
    x.skip();
    x.skip();
    Check.due("the set is not played in a circle", x.nextUse(0), -1);
    x.tick(25);
    Check.due("nothing behind the last", x.nextUse(4), -1);
  }

  private static void nextUseInFills() {
    BeatPages x = withSteps(at(0, 0, 12, 1), at(0, 0, 11, 4));
    x.setFill(0, 2, 13, 2);
    x.setFeel(0, 3, 2);
    play(x, 0, 0, 0);
    Check.due("a fill comes in the second bar", x.nextUse(2), 192 + 156 + 3);
    x.tick(144);
    Check.due("the fill overrides the second bar's steps", x.nextUse(1), 384);
    x.tick(192);
    Check.due("and those alone", x.nextUse(4), 180 + 3);
    Check.due("in the fill", x.nextUse(2), 15);
    int before = x.sounds();
    Check.due("step 12 is silent", x.tick(1), 0);
    Check.due("the fill is heard", x.tick(15), 1);
    Check.due("sounds", x.sounds(), before + 1);
    Check.due("no next fill", x.nextUse(2), -1);
  }

  private static void onlyThePatternsThatAreHeard() {
    BeatPages x = withSteps(at(0, 3, 0, 0), at(1, 0, 0, 1), at(2, 3, 15, 2));
    x.setFill(1, 0, 12, 3);
    x.setFill(0, 3, 15, 4);
    x.setFeel(0, 0, 2);
    play(x, 0, 0, 0, 0);
    Check.due("heard", x.nextUse(0), 192);
    Check.due("the pattern behind it is not heard", x.nextUse(1), -1);
    Check.due("nor one farther on", x.nextUse(2), -1);
    Check.due("nor the fill of another", x.nextUse(3), -1);
    Check.due("its own fill is", x.nextUse(4), 192 + 180);
  }

  private static void usedAtThisTickIsNotNext() {
    BeatPages x = withSteps(at(0, 0, 0, 0), at(0, 0, 1, 1), at(0, 0, 2, 0));
    play(x, 0);
    x.tick(1);
    Check.due("missed at the tick 0", x.misses(), 1);
    Check.due("the loader looks from the tick that follows on", x.inHand(), 11);
  }

  private static void throwsOutTheFarthest() {
    BeatPages x = withSteps(at(0, 0, 9, 0), at(0, 0, 11, 1), at(0, 0, 13, 2),
        at(1, 0, 5, 1), at(1, 0, 6, 0));
    sizes(x, 6, 6, 2);
    play(x, 0, 1);
    x.tick(96);
    loadedDue("full", x, 6, 6, 0);
    x.tick(12);
    loadedDue("no room, and none is farther", x, 6, 6, 0);
    Check.due("none in hand", x.inHand(), -1);
    x.tick(1);
    Check.due("behind the use of 0 it is the farthest", x.inHand(), 21);
    loadedDue("a page is thrown out as one is taken in hand", x, 5, 6, 0);
    x.tick(8);
    loadedDue("the second", x, 4, 6, 1);
    x.tick(7);
    loadedDue("all of it", x, 4, 6, 2);
    x.tick(16);
    loadedDue("nothing for 0 from nearer ones", x, 4, 6, 2);
    x.tick(17);
    Check.due("0, 1 and 2 are heard", x.sounds(), 3);
    loadedDue("2 has no next use", x, 4, 6, 1);
    Check.due("and gives its room", x.inHand(), 1);
  }

  private static void ofSeveralTheHighestGoes() {
    BeatPages x = withSteps(at(0, 0, 8, 0), at(0, 1, 8, 1), at(0, 2, 8, 2),
        at(0, 0, 9, 5), at(1, 0, 0, 0), at(1, 1, 0, 1), at(1, 2, 0, 2));
    sizes(x, 4, 4, 4);
    play(x, 0, 1);
    x.tick(96);
    loadedDue("full", x, 4, 4, 4, 0, 0, 0);
    x.tick(1);
    Check.due("in hand", x.inHand(), 51);
    loadedDue("the highest of several goes", x, 4, 4, 3, 0, 0, 0);
  }

  private static void throwsOutWhatHasNoUse() {
    BeatPages x = withSteps(at(0, 0, 8, 0), at(0, 1, 8, 1), at(0, 0, 10, 5),
        at(3, 0, 0, 1));
    sizes(x, 6, 6, 1, 1, 1, 3);
    play(x, 0, 2, 2, 3);
    x.tick(97);
    loadedDue("none is the farthest", x, 5, 6, 0, 0, 0, 0);
    x.tick(23);
    loadedDue("still the one without a use", x, 3, 6, 0, 0, 0, 3);
    BeatPages y = withSteps(at(0, 0, 8, 0), at(0, 1, 8, 1), at(0, 0, 10, 5));
    sizes(y, 6, 6);
    play(y, 0);
    y.tick(97);
    loadedDue("of several without a use the highest", y, 6, 5, 0, 0, 0, 0);
  }

  private static void notForAFartherOne() {
    BeatPages x = withSteps(at(0, 0, 9, 0), at(0, 0, 10, 1), at(0, 0, 12, 2));
    sizes(x, 6, 6, 6);
    play(x, 0);
    x.tick(108);
    loadedDue("nothing is thrown out for a farther one", x, 6, 6, 0);
    Check.due("none in hand", x.inHand(), -1);
    x.tick(1);
    loadedDue("until a sample has no use", x, 5, 6, 0);
    BeatPages y = withSteps(at(0, 0, 8, 0), at(0, 0, 9, 1), at(0, 0, 11, 2));
    sizes(y, 6, 6, 6);
    play(y, 0);
    y.tick(97);
    Check.due("a page of one's own is not thrown out", y.inHand(), 21);
    y.tick(47);
    loadedDue("0 goes first, then 1, which has no use either", y, 4, 3, 5);
    Check.due("five of six are missed", y.misses(), 1);
  }

  private static void notForOneAsFar() {
    BeatPages x = withSteps(at(0, 0, 10, 0), at(0, 1, 12, 1), at(0, 2, 12, 2));
    sizes(x, 6, 6, 1);
    play(x, 0);
    x.tick(120);
    loadedDue("one as far is not thrown out", x, 6, 6, 0);
    Check.due("none in hand", x.inHand(), -1);
    x.tick(1);
    loadedDue("one without a use is", x, 5, 6, 0);
  }

  private static void aSinglePageMayGo() {
    BeatPages x = withSteps(at(0, 0, 9, 0), at(0, 0, 8, 1), at(0, 1, 9, 2),
        at(0, 0, 10, 3), at(1, 0, 0, 0), at(1, 1, 0, 2));
    sizes(x, 6, 1, 5, 1);
    play(x, 0, 1);
    x.tick(96);
    loadedDue("full", x, 6, 1, 5, 0);
    x.tick(1);
    loadedDue("its only page goes", x, 6, 0, 5, 0);
    Check.due("in hand", x.inHand(), 31);
  }

  private static void nothingGoesForNothing() {
    BeatPages x = withSteps(at(0, 0, 8, 0), at(0, 0, 9, 1), at(0, 0, 15, 7));
    sizes(x, 6, 4, 1, 1, 1, 1, 1, 2);
    play(x, 0);
    x.tick(120);
    for (int step = 0; step < 7; step++) {
      loadedDue("all that is used is there", x, 6, 4, 0, 0, 0, 0, 0, 2);
      Check.due("none in hand", x.inHand(), -1);
      x.tick(9);
    }
  }

  private static void startEmptiesAFullMemory() {
    BeatPages x = withSteps(at(0, 0, 8, 0), at(0, 1, 8, 1));
    sizes(x, 6, 6);
    play(x, 0);
    x.tick(96);
    loadedDue("full", x, 6, 6);
    x.skip();
    loadedDue("full as it was then", x, 6, 6);
    x.start();
    loadedDue("empty", x, 0, 0);
    x.tick(96);
    loadedDue("full again", x, 6, 6);
    Check.due("both are heard", x.tick(1), 2);
  }

  private static void heardOnlyIfWhole() {
    BeatPages x = withSteps(at(0, 0, 1, 0), at(0, 0, 2, 0));
    x.setSize(0, 2);
    play(x, 0);
    Check.due("one of two pages", x.tick(13), 0);
    Check.due("missed", x.misses(), 1);
    Check.due("not heard", x.sounds(), 0);
    Check.due("a missed one is not in the sound number", x.soundNumber(), 0);
    Check.due("both pages", x.tick(12), 1);
    Check.due("missed before", x.misses(), 1);
    Check.due("heard", x.sounds(), 1);
    Check.due("the sound number", x.soundNumber(), 12);
    BeatPages y = withSteps(at(0, 0, 0, 1), at(0, 0, 1, 2), at(0, 0, 2, 3));
    y.setSize(2, 2);
    y.setFeel(0, 3, 0);
    play(y, 0);
    Check.due("15 ticks of work", y.tick(16), 0);
    Check.due("the page came in this very tick", y.loaded(2), 2);
    Check.due("too late for it", y.misses(), 2);
    y.skip();
    y.setFeel(0, 4, 0);
    y.start();
    Check.due("one tick later it is in time", y.tick(17), 1);
    Check.due("misses", y.misses(), 3);
  }

  private static void tracksByRisingNumbers() {
    BeatPages x = withSteps(at(0, 0, 6, 3), at(0, 1, 6, 1), at(0, 2, 6, 3),
        at(0, 3, 6, 0));
    x.tune(3, 5);
    x.tune(1, -12);
    x.tune(0, 12);
    play(x, 0);
    Check.due("one sample may sound twice", x.tick(73), 4);
    int want = 0;
    for (int heard : new int[] {317, 100, 317, 24}) {
      want = 31 * want + heard;
    }
    Check.due("by rising tracks", x.soundNumber(), want);
    Check.due("sounds", x.sounds(), 4);
  }

  private static void soundNumberIsAnInt() {
    BeatPages x = withSteps(at(0, 0, 6, 7), at(0, 1, 8, 7), at(0, 2, 10, 7));
    x.addEntry(0, 0, 4);
    x.tune(7, 12);
    play(x, 0);
    long exact = 0;
    int wrapped = 0;
    for (int bar = 0; bar < 5; bar++) {
      x.tick(192);
      for (int step = 0; step < 3; step++) {
        exact = 31 * exact + 724;
        wrapped = 31 * wrapped + 724;
      }
      Check.due("the sound number", x.soundNumber(), wrapped);
    }
    Check.due("it went beyond an int", exact != wrapped, true);
    Check.due("sounds", x.sounds(), 15);
  }

  private static void afterTheSet() {
    BeatPages x = withSteps(at(0, 0, 4, 2), at(0, 0, 15, 3), at(0, 1, 0, 4));
    sizes(x, 1, 1, 3, 6, 6);
    play(x, 0);
    x.tick(192);
    Check.due("over", x.place(), -1);
    loadedDue("as it was then", x, 0, 0, 3, 6, 0);
    x.setSize(3, 1);
    loadedDue("whatever its size is now", x, 0, 0, 3, 6, 0);
    x.clearSet();
    loadedDue("and without a list", x, 0, 0, 3, 6, 0);
    Check.due("no next use", x.nextUse(2), -1);
    BeatPages y = withSteps(at(0, 0, 15, 2), at(1, 0, 15, 3));
    y.addEntry(1, 1, 1);
    play(y, 0);
    y.tick(4);
    y.skip();
    Check.due("in hand as it was then", y.inHand(), 24);
    Check.due("sounds stay", y.sounds(), 0);
  }
}
