import java.math.BigInteger;

/** The edges of the memory, of the terms and of promises 20 to 25: a method for each sentence. */
final class EdgesOfMemoryTest extends Ways {
  public static void main(String[] args) {
    usesAtATick();
    usesByRisingTracks();
    missed();
    allPages();
    useBeforeTheLoader();
    roomFor12();
    neverMoreThan12();
    pageInHandTakesRoom();
    noPageInHand();
    nearestUse();
    lowestOfSeveral();
    onlyWithANextUse();
    useAtTheNextTick();
    onlyWithoutAllPages();
    thrownOutForIt();
    farthestUse();
    noneIsTheFarthest();
    highestOfSeveral();
    onlyWithPages();
    onlyIfFarther();
    otherwiseNone();
    eighthTick();
    nextUseFromTheNextTickOn();
    nextUseInThisBar();
    nextUseInThreeBars();
    nextUseOfNextSongs();
    nextUseInTheSet();
    noNextUse();
    nextUseWhenNotPlayed();
    loadedThen();
    loadedAtTheLastTick();
    inHandThen();
    inHandAtTheLastTick();
    inHandNumbers();
    howManySounded();
    howManyWereMissed();
    soundsAtFirst();
    soundNumberOfOne();
    soundNumberAsAnInt();
    Check.finish("EdgesOfMemoryTest");
  }

  private static void usesAtATick() {
    Check.sentence("Each track, by rising numbers, that has a sample at a step that begins at this tick uses it");
    for (int tracks = 0; tracks < 16; tracks++) {
      BeatPages x = new BeatPages();
      for (int track = 0; track <= 3; track++) {
        x.setStep(0, track, 5, (tracks >> track) % 2 == 1 ? track + 4 : -1);
      }
      play(x, 0);
      Check.due("ahead of the step", x.tick(60), 0);
      Check.due("each track that has one", x.tick(1), Integer.bitCount(tracks));
      Check.due("once", x.tick(131), 0);
      Check.due("none is missed", x.misses(), 0);
    }
    BeatPages y = withSteps(at(0, 0, 5, 3), at(0, 1, 5, 3), at(0, 2, 5, 3), at(0, 3, 5, 3));
    Check.due("also the same sample", play(y, 0).tick(192), 4);
  }

  private static void usesByRisingTracks() {
    Check.sentence("Each track, by rising numbers");
    int[][] orders = {{0, 1, 2, 3}, {3, 2, 1, 0}, {7, 0, 5, 2}, {1, 1, 0, 6}};
    for (int[] order : orders) {
      BeatPages x = new BeatPages();
      int number = 0;
      for (int track = 0; track <= 3; track++) {
        x.setStep(0, track, 8, order[track]);
        number = 31 * number + 100 * order[track] + 12;
      }
      play(x, 0).tick(97);
      Check.due("by rising tracks", x.soundNumber(), number);
    }
  }

  private static void missed() {
    Check.sentence("it sounds, if it can, otherwise it is missed.");
    BeatPages x = withSteps(at(0, 0, 4, 0), at(0, 1, 4, 1), at(0, 2, 4, 0), at(0, 3, 4, 1));
    sizes(x, 6, 1);
    play(x, 0);
    Check.due("one of the two sounds in both its tracks", x.tick(49), 2);
    Check.due("sounds", x.sounds(), 2);
    Check.due("the other is missed in both", x.misses(), 2);
    Check.due("what is missed is not in the sound number", x.soundNumber(), 12 * (31 + 1));
    BeatPages y = withSteps(at(0, 0, 4, 0), at(0, 1, 4, 1), at(0, 2, 4, 0), at(0, 3, 4, 1), at(0, 0, 2, 1));
    sizes(y, 6, 1);
    play(y, 0);
    Check.due("one page less, as the other was nearer at first", y.tick(49), 3);
    Check.due("sounds", y.sounds(), 3);
    Check.due("the other is missed in both", y.misses(), 2);
    Check.due("what is missed is not in the sound number", y.soundNumber(), 112 * (31 * 31 + 31 + 1));
  }

  private static void allPages() {
    Check.sentence("A sample can sound if all its pages are in the memory.");
    for (int size = 1; size <= 6; size++) {
      BeatPages x = withSteps(at(0, 0, 0, 2), at(0, 0, 15, 2));
      x.setSize(2, size);
      play(x, 0, 0);
      Check.due("no page", x.tick(1), 0);
      Check.due("all pages", x.tick(180), 1);
      Check.due("all pages stay", x.tick(192), 2);
      BeatPages y = withSteps(at(0, 0, 0, 2));
      y.addEntry(1, 1, 1);
      y.addToSet(1);
      y.setSize(2, size);
      play(y, 0);
      y.tick(8 * size - 1);
      y.skip();
      Check.due("all but one", y.loaded(2), size - 1);
      Check.due("do not sound", y.tick(1), 0);
      Check.due("but are missed", y.misses(), 1);
      Check.due("though the last one comes at this tick", y.loaded(2), size);
    }
  }

  private static void useBeforeTheLoader() {
    Check.sentence("A tick passes so:");
    BeatPages x = withSteps(at(0, 0, 1, 3), at(0, 0, 0, 2));
    x.addEntry(1, 1, 1);
    x.addToSet(1);
    play(x, 0);
    x.tick(7);
    Check.due("in hand", x.inHand(), 27);
    x.skip();
    Check.due("used first, then loaded", x.tick(1), 0);
    Check.due("used first, then loaded", x.loaded(2), 1);
    BeatPages y = withSteps(at(0, 0, 0, 2), at(0, 0, 2, 2), at(0, 1, 1, 3));
    play(y, 0);
    y.tick(1);
    Check.due("used first, then it is seen what is used next", y.inHand(), 31);
  }

  /** Samples 0 and 1 fill the memory, and are used at the tick 96; 2 of one page is used 12 ticks later. */
  private static BeatPages twoAndOne(int size) {
    BeatPages x = withSteps(at(0, 0, 8, 0), at(0, 1, 8, 1), at(0, 0, 9, 2));
    sizes(x, 6, size, 1);
    return play(x, 0);
  }

  private static void roomFor12() {
    Check.sentence("The memory has room for 12 pages.");
    BeatPages x = twoAndOne(6);
    x.tick(95);
    loadedDue("eleven", x, 6, 5, 0);
    x.tick(1);
    loadedDue("twelve", x, 6, 6, 0);
    x.tick(1);
    loadedDue("a thirteenth has no room", x, 6, 5, 0);
    BeatPages y = twoAndOne(5);
    y.tick(96);
    loadedDue("a twelfth has room, though it is the farthest", y, 6, 5, 1);
    Check.due("all are heard", y.tick(13), 3);
    loadedDue("all are there", y, 6, 5, 1);
  }

  /** Eight samples of six pages each, used all over three patterns. */
  private static BeatPages crowded() {
    BeatPages x = new BeatPages();
    for (int sample = 0; sample <= 7; sample++) {
      x.setSize(sample, 6);
      x.setStep(0, 0, 2 * sample, sample);
      x.setStep(1, 3, 2 * sample + 1, 7 - sample);
      x.setStep(2, sample % 4, sample, sample);
    }
    return play(x, 0, 1, 2, 1);
  }

  private static void neverMoreThan12() {
    Check.sentence("A page in hand takes room.");
    int most = 0;
    for (int ticks = 1; ticks < 768; ticks++) {
      BeatPages x = crowded();
      x.tick(ticks);
      int pages = x.inHand() == BeatPages.NONE ? 0 : 1;
      for (int sample = 0; sample <= 7; sample++) {
        Check.due("at most six of a sample", x.loaded(sample) >= 0 && x.loaded(sample) <= 6, true);
        pages += x.loaded(sample);
      }
      Check.due("no more than 12 with the one in hand, behind " + ticks + " ticks", pages <= 12, true);
      most = Math.max(most, pages);
    }
    Check.due("but 12", most, 12);
  }

  private static void pageInHandTakesRoom() {
    Check.sentence("A page in hand takes room");
    BeatPages x = twoAndOne(6);
    x.tick(97);
    for (int work = 1; work <= 7; work++) {
      loadedDue("one is thrown out as the other is taken in hand", x, 6, 5, 0);
      Check.due("in hand", x.inHand(), 20 + work);
      x.tick(1);
    }
    loadedDue("no other one when it comes into the memory", x, 6, 5, 1);
    BeatPages y = twoAndOne(5);
    y.tick(88);
    loadedDue("eleven", y, 6, 5, 0);
    for (int work = 1; work <= 7; work++) {
      y.tick(1);
      Check.due("the twelfth in hand", y.inHand(), 20 + work);
      loadedDue("none is thrown out for it", y, 6, 5, 0);
    }
  }

  private static void noPageInHand() {
    Check.sentence("If it has no page in hand, it takes one in hand, if it can");
    BeatPages x = withSteps(at(0, 0, 1, 7), at(0, 0, 2, 0), at(0, 1, 3, 1));
    x.addEntry(1, 1, 1);
    x.addToSet(1);
    sizes(x, 2, 2, 2, 2, 2, 2, 2, 2);
    play(x, 0);
    x.tick(5);
    x.skip();
    for (int work = 6; work <= 7; work++) {
      x.tick(1);
      Check.due("one in hand is worked on", x.inHand(), 70 + work);
    }
    x.tick(1);
    Check.due("none in hand", x.inHand(), -1);
    BeatPages y = withSteps(at(0, 0, 15, 7), at(1, 0, 1, 0));
    y.addEntry(1, 0, 1);
    y.addToSet(1);
    play(y, 1);
    y.tick(4);
    y.skip();
    for (int work = 5; work <= 7; work++) {
      y.tick(1);
      Check.due("though another one is nearer then", y.inHand(), 70 + work);
    }
    y.tick(2);
    Check.due("which is taken in hand behind it", y.inHand(), 1);
    Check.due("though it is late", y.place(), 100005);
  }

  private static void nearestUse() {
    Check.sentence("it is for the sample with the nearest next use of all that have one");
    for (int step = 1; step <= 14; step++) {
      BeatPages x = withSteps(at(0, 0, step, 7), at(0, 1, step + 1, 0));
      play(x, 0).tick(1);
      Check.due("the nearest, though it is the highest", x.inHand(), 71);
    }
    BeatPages y = withSteps(at(0, 0, 15, 7), at(1, 0, 0, 0));
    y.setFeel(0, 6, 0);
    play(y, 0, 1).tick(1);
    Check.due("nearer by 6 ticks, in this bar", y.inHand(), 71);
    BeatPages z = withSteps(at(0, 0, 2, 0), at(0, 1, 1, 7));
    z.setFeel(0, 6, 0);
    play(z, 0).tick(1);
    Check.due("nearer by 6 ticks, with its swing", z.inHand(), 71);
  }

  private static void lowestOfSeveral() {
    Check.sentence("(of several the lowest one)");
    for (int low = 0; low <= 6; low++) {
      for (int high = low + 1; high <= 7; high++) {
        BeatPages x = withSteps(at(0, 0, 6, high), at(0, 1, 6, low));
        play(x, 0).tick(1);
        Check.due("the lowest of two", x.inHand(), 10 * low + 1);
      }
    }
    BeatPages y = withSteps(at(0, 0, 6, 7), at(0, 1, 6, 4), at(0, 2, 6, 2), at(0, 3, 6, 5));
    play(y, 0);
    for (int due : new int[] {21, 41, 51, 71}) {
      y.tick(1);
      Check.due("the lowest of those that are left", y.inHand(), due);
      y.tick(7);
    }
  }

  private static void onlyWithANextUse() {
    Check.sentence("of all that have one");
    BeatPages x = withSteps(at(1, 0, 0, 0), at(0, 0, 0, 1));
    play(x, 0, 2, 2, 2, 1);
    x.tick(192);
    loadedDue("none is for one used in four bars, or at this tick, or never", x, 0, 0, 0);
    Check.due("none in hand", x.inHand(), -1);
    x.tick(1);
    Check.due("one for one used in three bars", x.inHand(), 1);
    BeatPages y = withSteps(at(0, 0, 1, 2));
    y.setSize(2, 6);
    play(y, 0).tick(17);
    loadedDue("the page in hand behind the last use comes", y, 0, 0, 2);
    y.tick(175);
    loadedDue("and no more", y, 0, 0, 2);
    Check.due("missed", y.misses(), 1);
  }

  private static void useAtTheNextTick() {
    Check.sentence("The next use of a sample is how many ticks later it is used for the first time");
    BeatPages x = withSteps(at(0, 0, 1, 1), at(0, 1, 1, 2), at(0, 2, 0, 0));
    x.addEntry(1, 1, 1);
    x.addToSet(1);
    sizes(x, 1, 2, 1);
    x.setFeel(0, 6, 0);
    play(x, 0).tick(7);
    x.skip();
    x.tick(17);
    loadedDue("loaded by then", x, 1, 2, 0);
    Check.due("used one tick later", x.nextUse(2), 1);
    Check.due("none in hand", x.inHand(), -1);
    x.tick(1);
    Check.due("taken in hand, for it is used one tick later", x.inHand(), 21);
    x.tick(1);
    Check.due("it is too late for it", x.misses(), 2);
    Check.due("it is worked on", x.inHand(), 22);
  }

  private static void onlyWithoutAllPages() {
    Check.sentence("and do not have all their pages");
    for (int size = 1; size <= 6; size++) {
      BeatPages x = withSteps(at(0, 0, 8, 0), at(0, 0, 9, 5));
      sizes(x, size);
      play(x, 0).tick(8 * size - 1);
      Check.due("the last page", x.inHand(), 7);
      x.tick(1);
      Check.due("all pages", x.loaded(0), size);
      x.tick(1);
      Check.due("then the next sample", x.inHand(), 51);
      x.tick(30);
      Check.due("no page too many", x.loaded(0), size);
      Check.due("nothing left", x.inHand(), -1);
    }
  }

  private static void thrownOutForIt() {
    Check.sentence("If there is such a sample, and the memory has no room, a page is thrown out");
    BeatPages x = withSteps(at(0, 0, 8, 0), at(0, 1, 8, 1), at(1, 0, 8, 2));
    sizes(x, 6, 6, 3);
    play(x, 0, 1);
    x.tick(96);
    loadedDue("full", x, 6, 6, 0);
    x.tick(1);
    loadedDue("one page for one page", x, 6, 5, 0);
    x.tick(7);
    loadedDue("one page for one page", x, 6, 5, 1);
    x.tick(16);
    loadedDue("three for three", x, 6, 3, 3);
    x.tick(200);
    loadedDue("none if there is no such sample", x, 6, 3, 3);
    BeatPages y = withSteps(at(0, 0, 8, 0), at(0, 1, 8, 1), at(0, 2, 8, 3));
    sizes(y, 5, 5, 1, 1);
    play(y, 0).tick(192);
    loadedDue("none if there is room", y, 5, 5, 0, 1);
  }

  private static void farthestUse() {
    Check.sentence("of the sample, other than this one, with pages in the memory, and the farthest next use");
    for (int farthest = 0; farthest <= 2; farthest++) {
      BeatPages x = withSteps(at(0, 0, 8, 0), at(0, 1, 8, 1), at(0, 2, 8, 2), at(0, 0, 10, 7));
      sizes(x, 4, 4, 4);
      for (int sample = 0; sample <= 2; sample++) {
        x.setStep(1, sample, sample == farthest ? 5 : 4, sample);
      }
      play(x, 0, 1).tick(97);
      for (int sample = 0; sample <= 2; sample++) {
        Check.due("of " + farthest + ", as the farthest", x.loaded(sample), sample == farthest ? 3 : 4);
      }
    }
    BeatPages y = withSteps(at(0, 0, 6, 0), at(0, 1, 6, 1), at(0, 2, 8, 5), at(1, 0, 0, 0), at(1, 1, 0, 1));
    sizes(y, 5, 4, 1, 1, 1, 6);
    play(y, 0, 1).tick(72);
    loadedDue("nine", y, 5, 4, 0, 0, 0, 0);
    y.tick(24);
    loadedDue("of its own none goes", y, 5, 4, 0, 0, 0, 3);
    y.tick(1);
    Check.due("it is missed", y.misses(), 1);
    ownPagesStay();
  }

  /** The sample for which the page is has pages, and is the highest; it is not its own page that goes. */
  private static void ownPagesStay() {
    BeatPages x = withSteps(at(0, 0, 8, 0), at(0, 1, 8, 1), at(0, 2, 10, 7));
    sizes(x, 5, 5, 1, 1, 1, 1, 1, 6);
    play(x, 0).tick(96);
    loadedDue("full", x, 5, 5, 0, 0, 0, 0, 0, 2);
    x.tick(1);
    loadedDue("another one's page goes", x, 5, 4, 0, 0, 0, 0, 0, 2);
    Check.due("in hand", x.inHand(), 71);
    x.tick(23);
    loadedDue("and again", x, 5, 2, 0, 0, 0, 0, 0, 5);
  }

  private static void noneIsTheFarthest() {
    Check.sentence("(none is the farthest");
    for (int without = 0; without <= 1; without++) {
      BeatPages x = withSteps(at(0, 0, 8, 0), at(0, 1, 8, 1), at(0, 0, 10, 7), at(3, 0, 15, 1 - without));
      sizes(x, 6, 6);
      x.setFeel(3, 6, 0);
      play(x, 0, 2, 2, 3).tick(97);
      Check.due("one with a use, the farthest that there is", x.nextUse(1 - without), 576 + 186 - 97);
      Check.due("one without", x.nextUse(without), -1);
      Check.due("it goes", x.loaded(without), 5);
      Check.due("the other one stays", x.loaded(1 - without), 6);
    }
  }

  private static void highestOfSeveral() {
    Check.sentence("of several the highest sample)");
    for (int again = 0; again <= 1; again++) {
      for (int low = 0; low <= 6; low++) {
        for (int high = low + 1; high <= 7; high++) {
          int wanted = low > 0 ? 0 : high < 7 ? 7 : 3;
          BeatPages x = withSteps(at(0, 0, 8, high), at(0, 1, 8, low), at(0, 0, 10, wanted));
          x.setSize(low, 6);
          x.setSize(high, 6);
          x.setStep(1, 2, 3, again == 0 ? -1 : low);
          x.setStep(1, 3, 3, again == 0 ? -1 : high);
          play(x, 0, 1).tick(97);
          Check.due("in hand", x.inHand(), 10 * wanted + 1);
          Check.due("the highest of two goes", x.loaded(high), 5);
          Check.due("the lowest of two stays", x.loaded(low), 6);
        }
      }
    }
  }

  private static void onlyWithPages() {
    Check.sentence("with pages in the memory");
    BeatPages x = withSteps(at(0, 0, 8, 0), at(0, 1, 8, 1), at(0, 2, 8, 6), at(0, 3, 12, 7), at(1, 0, 0, 0), at(1, 1, 0, 1));
    sizes(x, 5, 6, 1, 1, 1, 1, 1, 2);
    play(x, 0, 1).tick(96);
    loadedDue("full", x, 5, 6, 0, 0, 0, 0, 1, 0);
    x.tick(8);
    loadedDue("the only page of one without a use goes", x, 5, 6, 0, 0, 0, 0, 0, 1);
    x.tick(8);
    loadedDue("then it has none, and another one's page goes", x, 5, 5, 0, 0, 0, 0, 0, 2);
  }

  /** The others' next use, when the memory is full and they have been used, is at this step; sample 2 waits for it. */
  private static BeatPages atStep(int stepOfTwo, int stepOfOthers) {
    BeatPages x = withSteps(at(0, 0, 8, 0), at(0, 1, 8, 1), at(0, 2, stepOfTwo, 2),
        at(0, 0, stepOfOthers, 0), at(0, 1, stepOfOthers, 1));
    sizes(x, 6, 6, 2);
    x.setFeel(0, 6, 0);
    return play(x, 0);
  }

  private static void onlyIfFarther() {
    Check.sentence("but only if that is farther than the one of the sample for which the page is.");
    BeatPages x = atStep(13, 14);
    x.tick(97);
    loadedDue("farther by 6 ticks", x, 6, 5, 0);
    Check.due("farther by 6 ticks", x.inHand(), 21);
    BeatPages y = atStep(14, 14);
    y.tick(97);
    loadedDue("as far", y, 6, 6, 0);
    Check.due("as far", y.inHand(), -1);
    BeatPages z = atStep(14, 13);
    z.tick(97);
    loadedDue("nearer by 6 ticks", z, 6, 6, 0);
    Check.due("nearer by 6 ticks", z.inHand(), -1);
  }

  private static void otherwiseNone() {
    Check.sentence("Otherwise none is taken in hand.");
    BeatPages x = atStep(14, 13);
    x.tick(96);
    for (int tick = 96; tick < 162; tick++) {
      x.tick(1);
      Check.due("none in hand behind tick " + tick, x.inHand(), -1);
    }
    loadedDue("none is thrown out", x, 6, 6, 0);
    x.tick(1);
    Check.due("not before the others have no next use", x.inHand(), 21);
    loadedDue("then one is thrown out", x, 6, 5, 0);
  }

  private static void eighthTick() {
    Check.sentence("behind the 8th tick of work, the one in which it was taken in hand counted, the page is in the memory.");
    BeatPages x = withSteps(at(0, 0, 15, 7));
    x.setSize(7, 6);
    play(x, 0);
    for (int page = 0; page <= 5; page++) {
      for (int work = 1; work <= 7; work++) {
        x.tick(1);
        Check.due("in hand", x.inHand(), 70 + work);
        Check.due("not in the memory", x.loaded(7), page);
      }
      x.tick(1);
      Check.due("none in hand", x.inHand(), -1);
      Check.due("in the memory", x.loaded(7), page + 1);
    }
    x.tick(1);
    Check.due("all of it", x.inHand(), -1);
  }

  private static void nextUseFromTheNextTickOn() {
    Check.sentence("at a tick of this bar from the one that follows on");
    BeatPages x = withSteps(at(0, 0, 0, 1), at(0, 0, 4, 2), at(0, 0, 6, 2), at(0, 1, 15, 3));
    play(x, 0);
    Check.due("not at the tick that is due", x.nextUse(1), -1);
    x.tick(47);
    Check.due("at the one that follows", x.nextUse(2), 1);
    x.tick(1);
    Check.due("when it is due, the one behind it", x.nextUse(2), 24);
    x.tick(1);
    Check.due("behind it", x.nextUse(2), 23);
    x.tick(23);
    Check.due("when the last one is due", x.nextUse(2), -1);
    x.tick(107);
    Check.due("the last step of the bar", x.nextUse(3), 1);
    x.tick(1);
    Check.due("when it is due", x.nextUse(3), -1);
  }

  private static void nextUseInThisBar() {
    Check.sentence("how many ticks later it is used for the first time");
    for (int step = 1; step <= 15; step++) {
      BeatPages x = new BeatPages();
      for (int at = step; at <= 15; at++) {
        x.setStep(0, at % 4, at, 6);
      }
      play(x, 0, 0);
      Check.due("the first of several", x.nextUse(6), 12 * step);
      x.tick(180);
      Check.due("in the next bar", x.nextUse(6), 12 + 12 * step);
    }
    BeatPages y = withSteps(at(0, 3, 9, 6), at(0, 0, 10, 6));
    Check.due("of all tracks", play(y, 0).nextUse(6), 108);
  }

  private static void nextUseInThreeBars() {
    Check.sentence("or in one of the 3 bars that follow in the set");
    for (int ahead = 1; ahead <= 4; ahead++) {
      for (int step = 0; step <= 15; step += 15) {
        BeatPages x = withSteps(at(1, 2, step, 4));
        x.setFeel(1, 6, 0);
        for (int bar = 0; bar <= 5; bar++) {
          x.addEntry(0, bar == ahead ? 1 : 0, 1);
        }
        x.addToSet(0);
        x.start();
        int use = 192 * ahead + (step == 15 ? 186 : 0);
        Check.due("from the first tick of the bar", x.nextUse(4), ahead <= 3 ? use : -1);
        x.tick(191);
        Check.due("from its last tick", x.nextUse(4), ahead <= 3 ? use - 191 : -1);
        x.tick(1);
        Check.due("from the next bar", x.nextUse(4), use == 192 ? -1 : use - 192);
      }
    }
  }

  private static void nextUseOfNextSongs() {
    Check.sentence("(of the next songs, too)");
    BeatPages x = new BeatPages();
    for (int song = 0; song <= 4; song++) {
      x.addEntry(song, song, 1);
      x.setStep(song, 0, 1, song);
      x.addToSet(song);
    }
    x.start();
    for (int song = 0; song <= 4; song++) {
      Check.due("of song " + song, x.nextUse(song), song <= 3 ? 192 * song + 12 : -1);
    }
    x.skip();
    for (int song = 0; song <= 4; song++) {
      Check.due("seen from the next song", x.nextUse(song), song == 0 ? -1 : 192 * (song - 1) + 12);
    }
    BeatPages y = withSteps(at(0, 0, 1, 0), at(1, 0, 1, 1), at(2, 0, 1, 2));
    y.addEntry(0, 0, 2);
    y.addEntry(1, 1, 1);
    y.addEntry(2, 2, 3);
    y.addToSet(0);
    y.addToSet(1);
    y.addToSet(2);
    y.start();
    Check.due("behind two bars of this song", y.nextUse(1), 384 + 12);
    Check.due("behind one of the next song", y.nextUse(2), 576 + 12);
    y.tick(192);
    Check.due("from the last bar of the song", y.nextUse(2), 384 + 12);
  }

  private static void nextUseInTheSet() {
    Check.sentence("in one of the 3 bars that follow in the set");
    BeatPages x = withSteps(at(0, 0, 1, 0), at(1, 0, 1, 1));
    x.addEntry(0, 0, 2);
    x.addEntry(1, 1, 1);
    x.addToSet(0);
    x.start();
    Check.due("a song that is not in the set is not heard", x.nextUse(1), -1);
    x.tick(192 + 12);
    Check.due("behind the last bar there is none", x.nextUse(0), -1);
    x.skip();
    x.addToSet(0);
    x.start();
    x.tick(192 + 12);
    Check.due("the song once more", x.nextUse(0), 192);
    x.skip();
    x.tick(192 + 11);
    Check.due("the last use of the set", x.nextUse(0), 1);
    x.tick(1);
    Check.due("it is not played in a circle", x.nextUse(0), -1);
  }

  private static void noNextUse() {
    Check.sentence("It has none, if it is not used there.");
    BeatPages x = withSteps(at(0, 0, 1, 0), at(1, 0, 0, 1), at(3, 0, 0, 3));
    x.setFill(0, 0, 12, 2);
    play(x, 0, 2, 2, 2, 1);
    Check.due("used in this bar", x.nextUse(0), 12);
    Check.due("used in the fourth bar that follows", x.nextUse(1), -1);
    Check.due("in a fill that does not come", x.nextUse(2), -1);
    Check.due("in a pattern that does not come", x.nextUse(3), -1);
    Check.due("nowhere", x.nextUse(7), -1);
    x.tick(191);
    Check.due("in the fourth bar, 577 ticks on", x.nextUse(1), -1);
    x.tick(1);
    Check.due("in the third bar, 576 ticks on", x.nextUse(1), 576);
  }

  private static void nextUseWhenNotPlayed() {
    Check.sentence("Returns the ticks, 1 or more; NONE if it has none, or the set is not played.");
    BeatPages x = withSteps(at(0, 0, 0, 0), at(0, 0, 1, 1));
    x.addEntry(0, 0, 2);
    x.addToSet(0);
    Check.due("not started", x.nextUse(1), BeatPages.NONE);
    x.start();
    Check.due("started", x.nextUse(1), 12);
    Check.due("used now, and in the next bar", x.nextUse(0), 192);
    x.skip();
    Check.due("over", x.nextUse(1), BeatPages.NONE);
    x.start();
    x.tick(384);
    Check.due("over", x.nextUse(1), BeatPages.NONE);
    for (int sample : new int[] {-1, 8}) {
      Check.noSuch("no such sample", () -> x.nextUse(sample));
    }
  }

  private static void loadedThen() {
    Check.sentence("Returns how many; when the set is over, as it was then.");
    BeatPages x = withSteps(at(0, 0, 8, 0), at(0, 1, 8, 1));
    sizes(x, 6, 6);
    loadedDue("not started", x, 0, 0, 0, 0, 0, 0, 0, 0);
    play(x, 0).tick(96);
    loadedDue("all there is room for", x, 6, 6, 0, 0, 0, 0, 0, 0);
    x.skip();
    loadedDue("over", x, 6, 6, 0, 0, 0, 0, 0, 0);
    x.setSize(0, 1);
    x.setStep(0, 0, 8, 5);
    x.addEntry(0, 3, 4);
    x.clearSet();
    loadedDue("whatever changes", x, 6, 6, 0, 0, 0, 0, 0, 0);
    Check.notNow("nothing to start", x::start);
    loadedDue("refused", x, 6, 6, 0, 0, 0, 0, 0, 0);
    x.addToSet(0);
    x.start();
    loadedDue("started again", x, 0, 0, 0, 0, 0, 0, 0, 0);
  }

  /** Samples 0 to 3 of six pages each are used one behind the other, so that the loader works to the last tick. */
  private static BeatPages busy() {
    BeatPages x = withSteps(at(0, 0, 4, 0), at(0, 0, 8, 1), at(0, 0, 12, 2), at(0, 0, 15, 3), at(0, 1, 15, 4));
    sizes(x, 6, 6, 6, 6);
    x.setFeel(0, 6, 0);
    return x;
  }

  private static void loadedAtTheLastTick() {
    Check.sentence("when the set is over, as it was then");
    BeatPages x = busy();
    play(x, 0).tick(191);
    Check.due("in hand at the last tick", x.inHand(), 37);
    loadedDue("all but one page", x, 6, 0, 0, 5);
    Check.due("no sound at the last tick", x.tick(1), 0);
    Check.due("over", x.place(), -1);
    loadedDue("the page of the last tick is there", x, 6, 0, 0, 6);
    Check.due("none in hand", x.inHand(), -1);
  }

  private static void inHandThen() {
    Check.sentence("Returns for which sample a page is in hand; when the set is over, as it was then.");
    BeatPages x = withSteps(at(0, 0, 8, 5), at(0, 0, 9, 6));
    sizes(x, 1, 1, 1, 1, 1, 6);
    Check.due("not started", x.inHand(), -1);
    play(x, 0).tick(3);
    x.skip();
    Check.due("over", x.inHand(), 53);
    x.setStep(0, 0, 8, -1);
    x.setSize(5, 1);
    x.clearSet();
    Check.due("whatever changes", x.inHand(), 53);
    Check.notNow("no tick", () -> x.tick(1));
    Check.notNow("nothing to start", x::start);
    Check.due("refused", x.inHand(), 53);
    x.addToSet(0);
    x.start();
    Check.due("started again", x.inHand(), -1);
  }

  private static void inHandAtTheLastTick() {
    Check.sentence("Returns for which sample a page is in hand; when the set is over");
    BeatPages x = busy();
    x.addEntry(1, 7, 1);
    x.addToSet(1);
    play(x, 0).tick(7);
    x.skip();
    x.tick(191);
    Check.due("at the last tick", x.inHand(), 46);
    x.tick(1);
    Check.due("over", x.place(), -1);
    Check.due("with the work of the last tick", x.inHand(), 47);
    Check.due("not loaded", x.loaded(4), 0);
  }

  private static void inHandNumbers() {
    Check.sentence("Returns 10 times the sample, and how many ticks it was worked on, added; NONE if there is none.");
    for (int sample = 0; sample <= 7; sample++) {
      BeatPages x = withSteps(at(0, 0, 15, sample));
      play(x, 0);
      Check.due("none at first", x.inHand(), BeatPages.NONE);
      for (int work = 1; work <= 7; work++) {
        x.tick(1);
        Check.due("the sample and the work", x.inHand(), 10 * sample + work);
      }
      x.tick(1);
      Check.due("none", x.inHand(), BeatPages.NONE);
    }
  }

  private static void howManySounded() {
    Check.sentence("Returns how many samples have sounded.");
    BeatPages x = crowded();
    int sounds = 0;
    for (int ticks = 0; ticks < 768; ticks += 12) {
      sounds += x.tick(12);
      Check.due("as the ticks answered", x.sounds(), sounds);
    }
    Check.due("each beat sounds or is missed", x.sounds() + x.misses(), x.beats(0));
    Check.due("some sound", x.sounds() > 0, true);
    Check.due("and some do not", x.misses() > 0, true);
    BeatPages y = withSteps(at(0, 0, 1, 5), at(0, 3, 15, 5));
    for (int bar = 1; bar <= 8; bar++) {
      y.addEntry(0, 0, 4);
    }
    y.jump(0, 7, 0, 3);
    y.addToSet(0);
    y.start();
    for (int bars = 0; bars < 70; bars += 10) {
      y.tick(1920);
    }
    Check.due("all of 64 bars", y.sounds(), 128);
    Check.due("none is missed", y.misses(), 0);
  }

  private static void howManyWereMissed() {
    Check.sentence("Returns how many were missed.");
    BeatPages x = withSteps(at(0, 0, 0, 0), at(0, 1, 0, 1), at(0, 2, 0, 2), at(0, 3, 0, 3));
    play(x, 0, 0);
    x.tick(1);
    Check.due("four at the first tick", x.misses(), 4);
    Check.due("none then", x.tick(192), 4);
    Check.due("none then", x.misses(), 4);
    x.skip();
    Check.due("over", x.misses(), 4);
    x.start();
    x.tick(1);
    Check.due("four more", x.misses(), 8);
  }

  private static void soundsAtFirst() {
    Check.sentence("The sound number is an int, 0 at first");
    BeatPages x = withSteps(at(0, 0, 0, 7));
    Check.due("sounds", x.sounds(), 0);
    Check.due("misses", x.misses(), 0);
    Check.due("the sound number", x.soundNumber(), 0);
    play(x, 0).tick(192);
    Check.due("no sound", x.sounds(), 0);
    Check.due("one missed", x.misses(), 1);
    Check.due("the sound number stays", x.soundNumber(), 0);
  }

  private static void soundNumberOfOne() {
    Check.sentence("it is taken 31 times, and 100 times the sample, its tune by the pattern, and 12 are added");
    BeatPages x = withSteps(at(0, 0, 1, 7), at(1, 0, 1, 7));
    x.tune(7, 12);
    x.freeze(1, true);
    x.tune(7, -12);
    play(x, 0, 1, 0).tick(192);
    Check.due("the least tune", x.soundNumber(), 700);
    x.tick(192);
    Check.due("the greatest, by the pattern", x.soundNumber(), 31 * 700 + 724);
    x.tune(7, 0);
    x.tick(192);
    Check.due("31 times", x.soundNumber(), 31 * (31 * 700 + 724) + 712);
    BeatPages y = withSteps(at(0, 0, 1, 0), at(0, 0, 2, 0));
    y.tune(0, -12);
    play(y, 0).tick(192);
    Check.due("two sounds that add 0", y.soundNumber(), 0);
    Check.due("but sound", y.sounds(), 2);
  }

  private static void soundNumberAsAnInt() {
    Check.sentence("and 12 are added, as an int.");
    BeatPages x = new BeatPages();
    for (int at = 0; at < 48; at++) {
      x.setStep(0, at / 12, 4 + at % 12, 7 - at / 12);
    }
    x.tune(7, 12);
    play(x, 0, 0, 0, 0).tick(48);
    BigInteger exact = BigInteger.ZERO;
    boolean wasNegative = false;
    for (int step = 0; step < 48; step++) {
      Check.due("four samples", x.tick(1), 4);
      for (int track = 0; track <= 3; track++) {
        int added = 100 * (7 - track) + (track == 0 ? 12 : 0) + 12;
        exact = exact.multiply(BigInteger.valueOf(31)).add(BigInteger.valueOf(added));
      }
      wasNegative |= exact.intValue() < 0;
      Check.due("behind sound " + (4 * step + 4), x.soundNumber(), exact.intValue());
      x.tick(step % 12 == 11 ? 59 : 11);
    }
    Check.due("it was below 0", wasNegative, true);
    Check.due("it is far beyond an int", exact.bitLength() > 500, true);
  }
}
