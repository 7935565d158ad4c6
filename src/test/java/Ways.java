/** Short ways to an object that is played, and to what it has loaded, for the tests that extend this. */
abstract class Ways {
  /** A step: of a pattern, a track, a step of it, and a sample. */
  static int[] at(int pattern, int track, int step, int sample) {
    return new int[] {pattern, track, step, sample};
  }

  static BeatPages withSteps(int[]... steps) {
    BeatPages x = new BeatPages();
    for (int[] step : steps) {
      x.setStep(step[0], step[1], step[2], step[3]);
    }
    return x;
  }

  /** The sizes of the samples from 0 on. */
  static void sizes(BeatPages x, int... sizes) {
    for (int sample = 0; sample < sizes.length; sample++) {
      x.setSize(sample, sizes[sample]);
    }
  }

  /** One song of one bar of each of these patterns, as the whole set, which is started. */
  static BeatPages play(BeatPages x, int... patterns) {
    for (int pattern : patterns) {
      x.addEntry(0, pattern, 1);
    }
    x.addToSet(0);
    x.start();
    return x;
  }

  static void loadedDue(String call, BeatPages x, int... pages) {
    for (int sample = 0; sample < pages.length; sample++) {
      Check.due(call + ": loaded(" + sample + ")", x.loaded(sample), pages[sample]);
    }
  }
}
