import java.util.ArrayList;
import java.util.List;

/** Ways to look through an object: together they show all that it holds. Each makes less than 280 calls. */
enum Look {
  ANSWERS, PLAYING_ON, SAMPLES_AND_SETS, FILL_BARS, SET_LIST,
  STEPS_OF_0, STEPS_OF_3, STEPS_OF_6, STEPS_OF_9;

  private interface Answer {
    long give();
  }

  /** What was asked, and what it answered or threw. */
  private static final class Seen {
    final List<String> lines = new ArrayList<>();

    void add(String call, Answer answer) {
      String told;
      try {
        told = String.valueOf(answer.give());
      } catch (RuntimeException e) {
        told = e.getClass().getName();
      }
      lines.add(call + ": " + told);
    }
  }

  List<String> over(BeatPages x) {
    Seen seen = new Seen();
    switch (this) {
      case ANSWERS: lookAtAnswers(x, seen); break;
      case PLAYING_ON: playOn(x, seen); break;
      case SAMPLES_AND_SETS: lookAtSamplesAndSets(x, seen); break;
      case FILL_BARS: lookAtFillBars(x, seen); break;
      case SET_LIST: lookAtSetList(x, seen); break;
      default: lookAtSteps(x, seen, 3 * (ordinal() - STEPS_OF_0.ordinal()));
    }
    return seen.lines;
  }

  private static void lookAtAnswers(BeatPages x, Seen seen) {
    lookAtShow(x, seen);
    for (int i = 0; i < 8; i++) {
      final int sample = i;
      seen.add("loaded " + i, () -> x.loaded(sample));
      seen.add("nextUse " + i, () -> x.nextUse(sample));
    }
    for (int i = 0; i < 6; i++) {
      final int song = i;
      seen.add("bars " + i, () -> x.bars(song));
      seen.add("beats " + i, () -> x.beats(song));
      seen.add("beatsByTicks " + i, () -> x.beatsByTicks(song));
      for (int j = 0; j < 15; j++) {
        final int bar = j;
        seen.add("barAt " + i + " " + j, () -> x.barAt(song, bar));
      }
    }
  }

  private static void lookAtShow(BeatPages x, Seen seen) {
    seen.add("place", x::place);
    seen.add("inHand", x::inHand);
    seen.add("sounds", x::sounds);
    seen.add("misses", x::misses);
    seen.add("soundNumber", x::soundNumber);
  }

  private static void playOn(BeatPages x, Seen seen) {
    if (x.place() == BeatPages.NONE) {
      seen.add("start", x::start);
    }
    for (int i = 0; i < 20; i++) {
      seen.add("tick", () -> x.tick(1));
      lookAtShow(x, seen);
    }
    for (int i = 0; i < 14; i++) {
      seen.add("ticks", () -> x.tick(191));
      lookAtShow(x, seen);
    }
  }

  /** Ends the set, so that what it holds can be changed; what is changed answers what it was. */
  private static void leave(BeatPages x, Seen seen) {
    for (int place = 0; place < 8 && x.place() != BeatPages.NONE; place++) {
      seen.add("skip", x::skip);
    }
  }

  private static void lookAtSamplesAndSets(BeatPages x, Seen seen) {
    leave(x, seen);
    for (int i = 0; i < 8; i++) {
      final int sample = i;
      seen.add("size " + i, () -> x.setSize(sample, 1));
      seen.add("tune " + i, () -> x.tune(sample, 0));
    }
    for (int i = 0; i < 12; i++) {
      final int pattern = i;
      seen.add("swing " + i, () -> x.setFeel(pattern, 0, 0));
      seen.add("frozen " + i, () -> x.freeze(pattern, false) ? 1 : 0);
    }
    for (int i = 0; i < 6; i++) {
      final int song = i;
      seen.add("addEntry " + i, () -> x.addEntry(song, 0, 1));
    }
    seen.add("clearSet", x::clearSet);
  }

  /** The songs 2 and 3, which have no entry at any stage, show every how many bars each fill comes. */
  private static void lookAtFillBars(BeatPages x, Seen seen) {
    leave(x, seen);
    for (int i = 0; i < 12; i++) {
      final int pattern = i;
      final int song = 2 + i / 6;
      seen.add("addEntry of " + i, () -> x.addEntry(song, pattern, 4));
      seen.add("jump of " + i, () -> x.jump(song, pattern % 6, pattern % 6, 1));
    }
    for (int i = 0; i < 96; i++) {
      final int song = 2 + i / 48;
      final int bar = i % 48;
      seen.add("barAt " + song + " " + bar, () -> x.barAt(song, bar));
    }
  }

  private static void lookAtSetList(BeatPages x, Seen seen) {
    leave(x, seen);
    seen.add("start", x::start);
    for (int place = 0; place < 9; place++) {
      seen.add("tick", () -> x.tick(100));
      lookAtShow(x, seen);
      seen.add("skip", x::skip);
    }
    seen.add("addToSet", () -> x.addToSet(1));
    seen.add("clearSet", x::clearSet);
  }

  private static void lookAtSteps(BeatPages x, Seen seen, int first) {
    leave(x, seen);
    for (int pattern = first; pattern < first + 3; pattern++) {
      for (int at = 0; at < 64; at++) {
        lookAtStep(x, seen, pattern, at / 16, at % 16);
      }
    }
  }

  private static void lookAtStep(BeatPages x, Seen seen, int pattern, int track, int step) {
    String at = pattern + " " + track + " " + step;
    seen.add("step " + at, () -> x.setStep(pattern, track, step, -1));
    if (step >= 12) {
      seen.add("fill " + at, () -> x.setFill(pattern, track, step, -1));
    }
  }
}
