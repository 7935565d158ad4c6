/** Objects as they stand at different times of a show; each is made by less than 80 calls. */
enum Stage {
  FRESH, READY, PLAYED, OVER, FULL, FULL_PLAYED;

  private static final int[] SIZES = {2, 3, 4, 5, 3, 2, 2, 3};

  BeatPages make() {
    BeatPages x = new BeatPages();
    if (this == FRESH) {
      return x;
    }
    prepareSamples(x);
    preparePatterns(x);
    prepareSongs(x);
    if (isFull()) {
      fillUp(x);
    }
    if (isPlayed() || this == OVER) {
      x.start();
      x.tick(192 + 75);
    }
    if (this == OVER) {
      leave(x);
    }
    return x;
  }

  boolean isPlayed() {
    return this == PLAYED || this == FULL_PLAYED;
  }

  boolean isFull() {
    return this == FULL || this == FULL_PLAYED;
  }

  int countEntries(int song) {
    switch (song) {
      case 0: return this == FRESH ? 0 : isFull() ? 8 : 3;
      case 1: return this == FRESH ? 0 : 1;
      case 5: return this == FRESH ? 0 : 2;
      default: return 0;
    }
  }

  int countBars(int song) {
    switch (song) {
      case 0: return this == FRESH ? 0 : isFull() ? 14 : 9;
      case 1: return this == FRESH ? 0 : 1;
      case 5: return this == FRESH ? 0 : 3;
      default: return 0;
    }
  }

  boolean canStart() {
    return this == READY || this == OVER || this == FULL;
  }

  /** No size and no tune is one at its edge, so that a refused call that sets one there is seen. */
  private static void prepareSamples(BeatPages x) {
    for (int sample = 0; sample < 8; sample++) {
      x.setSize(sample, SIZES[sample]);
      x.tune(sample, 2 * sample - 7);
    }
    x.freeze(11, true);
    x.tune(2, 5);
    x.tune(6, -5);
  }

  private static void preparePatterns(BeatPages x) {
    int[][] steps = {{0, 0, 0, 3}, {0, 0, 15, 4}, {0, 3, 0, 5}, {0, 3, 15, 3}, {0, 1, 5, 2}, {0, 2, 10, 1},
        {11, 0, 0, 2}, {11, 0, 15, 1}, {11, 3, 0, 4}, {11, 3, 15, 6}, {11, 1, 8, 2}, {5, 0, 4, 6}};
    for (int[] step : steps) {
      x.setStep(step[0], step[1], step[2], step[3]);
    }
    int[][] fills = {{0, 0, 12, 1}, {0, 0, 15, 2}, {0, 3, 12, 5}, {0, 3, 15, 6}, {11, 0, 12, 4}, {11, 3, 15, 3}};
    for (int[] fill : fills) {
      x.setFill(fill[0], fill[1], fill[2], fill[3]);
    }
    x.setFeel(0, 3, 3);
    x.setFeel(11, 2, 4);
  }

  private static void prepareSongs(BeatPages x) {
    x.addEntry(0, 0, 2);
    x.addEntry(0, 11, 1);
    x.addEntry(0, 0, 3);
    x.jump(0, 1, 0, 1);
    x.addEntry(5, 11, 2);
    x.addEntry(5, 5, 1);
    x.addEntry(1, 0, 1);
    x.addToSet(0);
    x.addToSet(5);
    x.addToSet(1);
  }

  private static void fillUp(BeatPages x) {
    for (int entry = 3; entry < 8; entry++) {
      x.addEntry(0, entry + 4, 1);
    }
    for (int place = 3; place < 8; place++) {
      x.addToSet(place % 2 == 0 ? 5 : 0);
    }
  }

  private static void leave(BeatPages x) {
    for (int place = 0; place < 3; place++) {
      x.skip();
    }
  }
}
