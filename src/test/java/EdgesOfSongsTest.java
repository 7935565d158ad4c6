import java.util.stream.IntStream;

/** The edges of songs, of the terms and of promises 8 to 13: a method for each sentence. */
final class EdgesOfSongsTest {
  public static void main(String[] args) {
    songs();
    entries();
    entriesAtFirst();
    entryNumbers();
    repeats();
    jumpEntries();
    jumpTargets();
    jumpTimes();
    noJump();
    jumpInPlaceOfAnother();
    jumpAnswersTheBars();
    fromTheFirstEntryOn();
    jumpBehindTheLastBar();
    jumpsDoneByThen();
    endWithTheLastEntry();
    endWithTheBar64();
    barCounts();
    bars();
    barNumbers();
    countedOverTheSong();
    countedToTheLastBar();
    countedInEachSong();
    stepsOfFills();
    allTracksOfFills();
    beats();
    beatsOfTheSongAlone();
    beatsByTicks();
    Check.finish("EdgesOfSongsTest");
  }

  private static BeatPages withEntries(int song, int... repeats) {
    BeatPages x = new BeatPages();
    for (int pattern = 0; pattern < repeats.length; pattern++) {
      x.addEntry(song, pattern, repeats[pattern]);
    }
    return x;
  }

  private static void patternsDue(String call, BeatPages x, int song, int... patterns) {
    Check.due(call + ": bars", x.bars(song), patterns.length);
    for (int bar = 0; bar < patterns.length && bar < x.bars(song); bar++) {
      Check.due(call + ": bar " + bar, x.barAt(song, bar), 10 * patterns[bar]);
    }
    Check.noSuch(call + ": no more", () -> x.barAt(song, patterns.length));
  }

  private static void songs() {
    Check.sentence("Songs are 0 to 5");
    BeatPages x = new BeatPages();
    x.setStep(7, 2, 9, 3);
    for (int song = 0; song <= 5; song++) {
      Check.due("addEntry", x.addEntry(song, 6 + song, 1 + song % 4), 0);
      Check.due("jump", x.jump(song, 0, 0, 1), 2 * (1 + song % 4));
      Check.due("addToSet", x.addToSet(song), song + 1);
    }
    for (int song = 0; song <= 5; song++) {
      Check.due("bars", x.bars(song), 2 * (1 + song % 4));
      Check.due("barAt", x.barAt(song, 0), 60 + 10 * song);
      Check.due("beats", x.beats(song), song == 1 ? 4 : 0);
      Check.due("beatsByTicks", x.beatsByTicks(song), song == 1 ? 4 : 0);
    }
    for (int song : new int[] {-1, 6}) {
      Check.noSuch("addEntry", () -> x.addEntry(song, 0, 1));
      Check.noSuch("jump", () -> x.jump(song, 0, 0, 1));
      Check.noSuch("addToSet", () -> x.addToSet(song));
      Check.noSuch("bars", () -> x.bars(song));
      Check.noSuch("barAt", () -> x.barAt(song, 0));
      Check.noSuch("beats", () -> x.beats(song));
      Check.noSuch("beatsByTicks", () -> x.beatsByTicks(song));
    }
  }

  private static void entries() {
    Check.sentence("a song has a row of at most 8 entries");
    for (int song = 0; song <= 5; song++) {
      final int of = song;
      BeatPages x = withEntries(song, 1, 1, 1, 1, 1, 1, 1);
      Check.due("the eighth", x.addEntry(song, 7, 1), 7);
      Check.notNow("a ninth", () -> x.addEntry(of, 8, 1));
      patternsDue("full", x, song, 0, 1, 2, 3, 4, 5, 6, 7);
      Check.due("the eighth jumps to the eighth", x.jump(song, 7, 7, 1), 9);
      for (int other = 0; other <= 5; other++) {
        if (other != song) {
          Check.due("another song is not full", x.addEntry(other, 9, 1), 0);
        }
      }
      patternsDue("none of another song", x, song, 0, 1, 2, 3, 4, 5, 6, 7, 7);
    }
  }

  private static void entriesAtFirst() {
    Check.sentence("a song has a row of at most 8 entries, at first none.");
    BeatPages x = new BeatPages();
    for (int song = 0; song <= 5; song++) {
      final int of = song;
      Check.due("bars", x.bars(song), 0);
      Check.due("beats", x.beats(song), 0);
      Check.due("beatsByTicks", x.beatsByTicks(song), 0);
      Check.noSuch("barAt", () -> x.barAt(of, 0));
      Check.noSuch("jump", () -> x.jump(of, 0, 0, 0));
    }
  }

  private static void entryNumbers() {
    Check.sentence("Returns the number of the entry.");
    BeatPages x = new BeatPages();
    for (int entry = 0; entry < 8; entry++) {
      Check.due("0 for the first one", x.addEntry(5, 11, 1), entry);
      Check.due("the same pattern in another song", x.addEntry(0, 11, 4), entry);
    }
  }

  private static void repeats() {
    Check.sentence("An entry is a pattern, how many bars it is repeated, 1 to 4");
    for (int repeats = 1; repeats <= 4; repeats++) {
      Check.due("so many bars", withEntries(3, repeats).bars(3), repeats);
    }
    BeatPages x = withEntries(3, 1, 4, 1);
    patternsDue("each so many", x, 3, 0, 1, 1, 1, 1, 2);
    for (int repeats : new int[] {0, 5}) {
      Check.outOfRange("repeats", () -> x.addEntry(3, 7, repeats));
    }
    patternsDue("as before", x, 3, 0, 1, 1, 1, 1, 2);
    Check.due("the next entry", x.addEntry(3, 7, 4), 3);
  }

  private static void jumpEntries() {
    Check.sentence("`entry`: an entry");
    for (int count = 1; count <= 8; count++) {
      BeatPages x = new BeatPages();
      for (int entry = 0; entry < count; entry++) {
        x.addEntry(2, entry, 1);
      }
      final int behind = count;
      Check.noSuch("entry -1", () -> x.jump(2, -1, 0, 1));
      Check.noSuch("behind the last entry", () -> x.jump(2, behind, 0, 1));
      Check.due("the last entry", x.jump(2, count - 1, count - 1, 1), count + 1);
      Check.due("the first entry", x.jump(2, 0, 0, 1), count == 1 ? 2 : count + 2);
    }
  }

  private static void jumpTargets() {
    Check.sentence("`to`: the entry to which it jumps, ahead of it, it, or behind it");
    BeatPages x = withEntries(4, 1, 2, 1);
    Check.due("ahead of it", x.jump(4, 1, 0, 1), 7);
    patternsDue("ahead of it", x, 4, 0, 1, 1, 0, 1, 1, 2);
    Check.due("it", x.jump(4, 1, 1, 1), 6);
    patternsDue("it", x, 4, 0, 1, 1, 1, 1, 2);
    Check.due("behind it", x.jump(4, 1, 2, 1), 4);
    patternsDue("behind it", x, 4, 0, 1, 1, 2);
    Check.due("behind it, past another", x.jump(4, 0, 2, 1), 2);
    patternsDue("behind it, past another", x, 4, 0, 2);
    for (int to : new int[] {-1, 3}) {
      for (int times = 0; times <= 3; times++) {
        final int many = times;
        Check.noSuch("no such entry", () -> x.jump(4, 0, to, many));
      }
    }
    patternsDue("as before", x, 4, 0, 2);
  }

  private static void jumpTimes() {
    Check.sentence("to an entry, at most so many times, 1 to 3.");
    BeatPages x = withEntries(1, 2, 1);
    for (int times = 1; times <= 3; times++) {
      Check.due("so many times", x.jump(1, 0, 0, times), 2 * (1 + times) + 1);
    }
    patternsDue("three times", x, 1, 0, 0, 0, 0, 0, 0, 0, 0, 1);
    for (int times : new int[] {-1, 4}) {
      Check.outOfRange("times", () -> x.jump(1, 0, 1, times));
    }
    patternsDue("as before", x, 1, 0, 0, 0, 0, 0, 0, 0, 0, 1);
  }

  private static void noJump() {
    Check.sentence("`times`: 1 to 3; 0 for no jump");
    BeatPages x = withEntries(1, 2, 1);
    Check.due("there was none", x.jump(1, 0, 1, 0), 3);
    Check.due("a jump", x.jump(1, 1, 0, 3), 12);
    Check.due("no jump", x.jump(1, 1, 0, 0), 3);
    patternsDue("no jump", x, 1, 0, 0, 1);
  }

  private static void jumpInPlaceOfAnother() {
    Check.sentence("Gives an entry a jump, in place of another one.");
    BeatPages x = withEntries(0, 1, 1, 1);
    x.jump(0, 2, 0, 3);
    Check.due("to another entry, less often", x.jump(0, 2, 1, 1), 5);
    patternsDue("the other one is gone", x, 0, 0, 1, 2, 1, 2);
    Check.due("to the same entry, more often", x.jump(0, 2, 1, 2), 7);
    Check.due("the jump of another entry stays", x.jump(0, 0, 0, 1), 8);
    patternsDue("two jumps", x, 0, 0, 0, 1, 2, 1, 2, 1, 2);
  }

  private static void jumpAnswersTheBars() {
    Check.sentence("Returns how many bars the song has then.");
    BeatPages x = withEntries(0, 1, 2, 3, 4);
    Check.due("all once more", x.jump(0, 3, 0, 1), 20);
    Check.due("less once more", x.jump(0, 3, 1, 1), 19);
    Check.due("past an entry, and then through it", x.jump(0, 1, 3, 1), 16);
    Check.due("no jump in place of none", x.jump(0, 2, 2, 0), 16);
    Check.due("past an entry alone", x.jump(0, 3, 0, 0), 7);
    Check.due("no jump at all", x.jump(0, 1, 0, 0), 10);
    Check.due("all four times", x.jump(0, 3, 0, 3), 40);
    Check.due("the first one three times more", x.jump(0, 0, 0, 3), 43);
    Check.due("the third one, too", x.jump(0, 2, 2, 3), 52);
    Check.due("the first two, too", x.jump(0, 1, 0, 3), 61);
    Check.due("64, for there are not 70", x.jump(0, 2, 0, 3), 64);
  }

  private static void fromTheFirstEntryOn() {
    Check.sentence("The bars of a song are found by going through the entries from the first one on");
    BeatPages x = new BeatPages();
    for (int entry = 0; entry < 8; entry++) {
      x.addEntry(4, 11 - entry, 1);
      patternsDue("by the order of the entries", x, 4,
          IntStream.rangeClosed(0, entry).map(at -> 11 - at).toArray());
    }
  }

  private static void jumpBehindTheLastBar() {
    Check.sentence("each gives its bars; behind the last of these it jumps");
    BeatPages x = withEntries(0, 4, 3, 2);
    x.jump(0, 1, 0, 1);
    patternsDue("behind the last", x, 0, 0, 0, 0, 0, 1, 1, 1, 0, 0, 0, 0, 1, 1, 1, 2, 2);
    x.jump(0, 0, 2, 1);
    patternsDue("behind the last", x, 0, 0, 0, 0, 0, 2, 2);
  }

  private static void jumpsDoneByThen() {
    Check.sentence("if it has a jump that was not done so many times by then, otherwise the next entry follows.");
    BeatPages x = withEntries(0, 1, 1, 1);
    x.jump(0, 0, 0, 1);
    x.jump(0, 1, 0, 1);
    patternsDue("a jump that was done is not done anew", x, 0, 0, 0, 1, 0, 1, 2);
    x.jump(0, 0, 0, 3);
    x.jump(0, 1, 0, 3);
    patternsDue("three and three", x, 0, 0, 0, 0, 0, 1, 0, 1, 0, 1, 0, 1, 2);
    x.jump(0, 2, 0, 3);
    patternsDue("and three from the last", x, 0,
        0, 0, 0, 0, 1, 0, 1, 0, 1, 0, 1, 2, 0, 1, 2, 0, 1, 2, 0, 1, 2);
    BeatPages y = withEntries(0, 1, 1, 1);
    y.jump(0, 0, 2, 2);
    y.jump(0, 2, 0, 3);
    patternsDue("past an entry twice", y, 0, 0, 2, 0, 2, 0, 1, 2, 0, 1, 2);
  }

  private static void endWithTheLastEntry() {
    Check.sentence("They end with the last entry");
    patternsDue("one entry of one bar", withEntries(0, 1), 0, 0);
    BeatPages x = withEntries(0, 1, 1, 4);
    x.jump(0, 0, 2, 1);
    patternsDue("come to by a jump", x, 0, 0, 2, 2, 2, 2);
    x.jump(0, 2, 1, 1);
    patternsDue("behind its own jump", x, 0, 0, 2, 2, 2, 2, 1, 2, 2, 2, 2);
    x.addEntry(0, 3, 1);
    patternsDue("another one is the last then", x, 0, 0, 2, 2, 2, 2, 1, 2, 2, 2, 2, 3);
  }

  private static void endWithTheBar64() {
    Check.sentence("or with the 64th bar.");
    BeatPages x = withEntries(0, 4, 4, 4, 4, 2, 1, 1, 1);
    Check.due("63 bars", x.jump(0, 7, 0, 2), 63);
    Check.due("the 63rd", x.barAt(0, 62), 70);
    Check.noSuch("no 64th", () -> x.barAt(0, 63));
    BeatPages y = withEntries(5, 2, 2, 2, 2, 2, 2, 2, 2);
    Check.due("64 bars", y.jump(5, 7, 0, 3), 64);
    Check.due("the 64th", y.barAt(5, 63), 70);
    Check.noSuch("no 65th", () -> y.barAt(5, 64));
    BeatPages z = withEntries(3, 4, 4, 4, 4, 1, 4, 4, 4);
    Check.due("one less than 65", z.jump(3, 7, 5, 3), 64);
    Check.due("the fourth of four is cut", z.barAt(3, 63), 70);
    Check.due("the three others are there", z.barAt(3, 61), 70);
    Check.due("the entry ahead", z.barAt(3, 60), 60);
    Check.noSuch("no 65th", () -> z.barAt(3, 64));
    endsHoweverItJumps();
  }

  private static void endsHoweverItJumps() {
    BeatPages x = withEntries(2, 4, 4, 4, 4, 4, 4, 4, 4);
    for (int entry = 0; entry < 8; entry++) {
      x.jump(2, entry, 0, 3);
    }
    Check.due("however it jumps", x.bars(2), 64);
    Check.due("the third visit of the entry 2 did not come", x.barAt(2, 59), 20);
    Check.due("for it jumps to the first one once more", x.barAt(2, 63), 0);
    x.addToSet(2);
    Check.due("played to the 64th bar", x.start(), 64);
    x.tick(2000);
    for (int ticks = 2000; ticks < 63 * 192; ticks += 1000) {
      x.tick(Math.min(1000, 63 * 192 - ticks));
    }
    Check.due("the 64th bar", x.place(), 63000);
    x.tick(191);
    Check.due("its last tick", x.place(), 63191);
    x.tick(1);
    Check.due("over behind it", x.place(), -1);
  }

  private static void barCounts() {
    Check.sentence("Returns how many bars a song has.");
    BeatPages x = new BeatPages();
    int due = 0;
    Check.due("none", x.bars(1), 0);
    for (int entry = 0; entry < 8; entry++) {
      x.addEntry(1, 0, 1 + entry % 4);
      due += 1 + entry % 4;
      Check.due("one entry more", x.bars(1), due);
    }
    Check.due("of another song", x.bars(0), 0);
    Check.due("of another song", x.bars(2), 0);
  }

  private static void bars() {
    Check.sentence("`bar`: 0 for the first one");
    for (int song = 0; song <= 5; song++) {
      final int of = song;
      BeatPages x = withEntries(song, 1, 1, 1, 2);
      patternsDue("0 for the first one", x, song, 0, 1, 2, 3, 3);
      Check.noSuch("bar -1", () -> x.barAt(of, -1));
      Check.noSuch("bar 5", () -> x.barAt(of, 5));
      x.addEntry(song, 4, 1);
      Check.due("bar 5", x.barAt(song, 5), 40);
      Check.noSuch("bar 6", () -> x.barAt(of, 6));
    }
  }

  private static void barNumbers() {
    Check.sentence("Returns 10 times the pattern, and 1 if it is a bar with a fill, otherwise 0, added.");
    for (int pattern = 0; pattern <= 11; pattern++) {
      BeatPages x = new BeatPages();
      x.addEntry(0, pattern, 2);
      Check.due("otherwise 0", x.barAt(0, 1), 10 * pattern);
      x.setFeel(pattern, 0, 2);
      Check.due("otherwise 0", x.barAt(0, 0), 10 * pattern);
      Check.due("and 1", x.barAt(0, 1), 10 * pattern + 1);
    }
  }

  private static void countedOverTheSong() {
    Check.sentence("The bars of a pattern in a song are counted from 1, over the whole song.");
    BeatPages x = new BeatPages();
    x.setFeel(3, 0, 3);
    x.setFeel(4, 0, 2);
    x.addEntry(0, 3, 2);
    x.addEntry(0, 4, 1);
    x.addEntry(0, 3, 2);
    x.jump(0, 2, 1, 2);
    int[] due = {30, 30, 40, 31, 30, 41, 30, 31, 40, 30, 30};
    Check.due("bars", x.bars(0), due.length);
    for (int bar = 0; bar < due.length; bar++) {
      Check.due("over entries, jumps and other patterns, bar " + bar, x.barAt(0, bar), due[bar]);
    }
  }

  private static void countedToTheLastBar() {
    Check.sentence("In a bar of a pattern whose fill comes every n bars, and whose count can be divided by n");
    BeatPages x = new BeatPages();
    for (int song = 0; song <= 5; song += 5) {
      for (int entry = 0; entry < 8; entry++) {
        x.addEntry(song, 9, 4);
      }
      x.jump(song, 7, 0, 1);
    }
    for (int every : new int[] {2, 7, 8}) {
      x.setFeel(9, 0, every);
      for (int bar = 0; bar < 64; bar++) {
        Check.due("every " + every + ", bar " + bar, x.barAt(5, bar), (bar + 1) % every == 0 ? 91 : 90);
      }
    }
    Check.due("the 64th bar of the first song", x.barAt(0, 63), 91);
    for (int every = 3; every <= 6; every++) {
      x.setFeel(9, 0, every);
      for (int bar = 40; bar < 64; bar++) {
        Check.due("every " + every + ", bar " + bar, x.barAt(5, bar), (bar + 1) % every == 0 ? 91 : 90);
      }
    }
  }

  private static void countedInEachSong() {
    Check.sentence("in a song are counted from 1");
    BeatPages x = new BeatPages();
    x.setStep(10, 0, 15, 1);
    x.setFill(10, 0, 15, 2);
    x.setFeel(10, 0, 2);
    for (int song = 0; song <= 5; song++) {
      x.addEntry(song, 10, 3);
      x.addToSet(song);
    }
    for (int song = 0; song <= 5; song++) {
      Check.due("the first", x.barAt(song, 0), 100);
      Check.due("the second", x.barAt(song, 1), 101);
      Check.due("the third", x.barAt(song, 2), 100);
    }
    x.start();
    for (int song = 0; song <= 5; song++) {
      Check.due("the first has no fill when it is played", x.nextUse(1), 180);
      Check.due("the second has", x.nextUse(2), 192 + 180);
      x.skip();
    }
  }

  private static void stepsOfFills() {
    Check.sentence("the steps 12 to 15 of all tracks are those of the fill. That is a bar with a fill.");
    for (int step = 10; step <= 15; step++) {
      BeatPages x = new BeatPages();
      x.setFeel(0, 6, 2);
      x.addEntry(0, 0, 2);
      x.setStep(0, 0, step, 1);
      boolean isOfFill = step >= 12;
      Check.due("the step " + step + " in two bars", x.beats(0), isOfFill ? 1 : 2);
      if (isOfFill) {
        x.setFill(0, 0, step, 2);
        Check.due("with the fill's", x.beats(0), 2);
      }
      x.addToSet(0);
      x.start();
      int tick = 12 * step + (step % 2 == 1 ? 6 : 0);
      x.tick(192);
      Check.due("the step in the second bar", x.nextUse(1), isOfFill ? -1 : tick);
      Check.due("the fill's in the second bar, swung, too", x.nextUse(2), isOfFill ? tick : -1);
    }
  }

  private static void allTracksOfFills() {
    Check.sentence("the steps 12 to 15 of all tracks");
    for (int track = 0; track <= 3; track++) {
      BeatPages x = new BeatPages();
      x.setFeel(0, 0, 2);
      x.addEntry(0, 0, 2);
      for (int of = 0; of <= 3; of++) {
        x.setStep(0, of, 14, of);
      }
      x.setFill(0, track, 14, 7);
      Check.due("four, and the fill's one", x.beats(0), 5);
      x.addToSet(0);
      x.start();
      x.tick(192);
      for (int sample = 0; sample <= 3; sample++) {
        Check.due("none of the steps", x.nextUse(sample), -1);
      }
      Check.due("the fill's", x.nextUse(7), 168);
    }
  }

  private static void beatsDue(String call, BeatPages x, int song, int want) {
    Check.due(call + ": beats", x.beats(song), want);
    Check.due(call + ": beatsByTicks", x.beatsByTicks(song), want);
  }

  private static void beats() {
    Check.sentence("Returns how many beats a song has: steps with a sample, of all tracks and bars.");
    BeatPages x = new BeatPages();
    beatsDue("no bars", x, 5, 0);
    x.addEntry(5, 11, 4);
    beatsDue("no steps", x, 5, 0);
    for (int at = 0; at < 64; at++) {
      x.setStep(11, at / 16, at % 16, 7 - at % 8);
      beatsDue("each step of each track in four bars", x, 5, 4 * at + 4);
    }
    for (int entry = 1; entry < 8; entry++) {
      x.addEntry(5, 11, 4);
    }
    beatsDue("32 bars", x, 5, 2048);
    x.jump(5, 7, 0, 1);
    beatsDue("64 bars, the most that there can be", x, 5, 4096);
    x.setFeel(11, 6, 8);
    beatsDue("eight empty fills", x, 5, 4096 - 8 * 16);
    x.setFeel(11, 6, 2);
    beatsDue("fills in 32 bars", x, 5, 4096 - 32 * 16);
    for (int at = 0; at < 16; at++) {
      x.setFill(11, at / 4, 12 + at % 4, 0);
      beatsDue("and each step of the fill in them", x, 5, 4096 - 32 * (15 - at));
    }
    beatsDue("of another song", x, 4, 0);
  }

  private static void beatsOfTheSongAlone() {
    Check.sentence("steps with a sample, of all tracks and bars.");
    BeatPages x = new BeatPages();
    for (int song = 0; song <= 5; song++) {
      for (int entry = 0; entry < 8; entry++) {
        x.addEntry(song, song, 4);
      }
      x.jump(song, 7, 0, 1);
      x.setStep(song, 0, 0, song);
    }
    for (int song = 0; song <= 5; song++) {
      beatsDue("64 bars between songs of 64", x, song, 64);
    }
    for (int song = 1; song <= 3; song += 2) {
      x.jump(song, 7, 0, 0);
      beatsDue("32 bars, where 64 were", x, song, 32);
      x.jump(song, 0, 7, 1);
      beatsDue("8 bars, where 32 were", x, song, 8);
    }
    for (int song = 0; song <= 4; song += 2) {
      beatsDue("the songs beside it", x, song, 64);
    }
  }

  private static void beatsByTicks() {
    Check.sentence("Returns the same, counted tick by tick.");
    for (int swing = 0; swing <= 6; swing++) {
      for (int step = 0; step <= 15; step++) {
        BeatPages x = new BeatPages();
        x.setFeel(1, swing, 0);
        x.setStep(1, 3, step, 0);
        x.addEntry(0, 1, 1);
        beatsDue("step " + step + " with swing " + swing, x, 0, 1);
      }
    }
  }
}
