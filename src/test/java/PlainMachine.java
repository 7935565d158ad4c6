import java.util.ArrayList;
import java.util.List;

/**
 * The document once more, as plainly as it can be said and without thought for speed: every answer
 * is found anew from the lists. It answers a refusal by one of the numbers below.
 */
final class PlainMachine {
  static final int NO_SUCH = -1001;
  static final int OUT_OF_RANGE = -1002;
  static final int NOT_NOW = -1003;

  private record Entry(int pattern, int repeats, int to, int times) {
  }

  private record Bar(int pattern, boolean isFill, int song, int number) {
  }

  private static final class Pattern {
    final Integer[][] steps = new Integer[4][16];
    final Integer[][] fill = new Integer[4][16];
    int swing;
    int every;
    int[] kept;

    int begin(int step) {
      return 12 * step + (step % 2 == 0 ? 0 : swing);
    }

    Integer used(boolean isFill, int track, int tick) {
      for (int step = 0; step < 16; step++) {
        if (begin(step) == tick) {
          return (isFill && step >= 12 ? fill : steps)[track][step];
        }
      }
      return null;
    }
  }

  private final int[] sizes = {1, 1, 1, 1, 1, 1, 1, 1};
  private final int[] tunes = new int[8];
  private final List<Pattern> patterns = new ArrayList<>();
  private final List<List<Entry>> songs = new ArrayList<>();
  private final List<Integer> setList = new ArrayList<>();
  private List<Bar> played;
  private int at;
  private int tick;
  private final List<Integer> memory = new ArrayList<>();
  private Integer hand;
  private int work;
  private int sounds;
  private int misses;
  private int number;

  PlainMachine() {
    for (int i = 0; i < 12; i++) {
      patterns.add(new Pattern());
    }
    for (int i = 0; i < 6; i++) {
      songs.add(new ArrayList<>());
    }
  }

  private static boolean outside(int value, int from, int to) {
    return !(from <= value && value <= to);
  }

  int setSize(int sample, int pages) {
    if (outside(sample, 0, 7)) return NO_SUCH;
    if (outside(pages, 1, 6)) return OUT_OF_RANGE;
    if (played != null) return NOT_NOW;
    int before = sizes[sample];
    sizes[sample] = pages;
    return before;
  }

  int tune(int sample, int tune) {
    if (outside(sample, 0, 7)) return NO_SUCH;
    if (outside(tune, -12, 12)) return OUT_OF_RANGE;
    int before = tunes[sample];
    tunes[sample] = tune;
    return before;
  }

  int setStep(int pattern, int track, int step, int sample) {
    return set(pattern, track, step, sample, 0, false);
  }

  int setFill(int pattern, int track, int step, int sample) {
    return set(pattern, track, step, sample, 12, true);
  }

  private int set(int pattern, int track, int step, int sample, int lowest, boolean isFill) {
    if (outside(pattern, 0, 11) || outside(track, 0, 3) || outside(step, lowest, 15)) return NO_SUCH;
    if (outside(sample, -1, 7)) return NO_SUCH;
    if (played != null) return NOT_NOW;
    Pattern p = patterns.get(pattern);
    Integer[] row = (isFill ? p.fill : p.steps)[track];
    int before = row[step] == null ? -1 : row[step];
    row[step] = sample == -1 ? null : sample;
    return before;
  }

  int setFeel(int pattern, int swing, int every) {
    if (outside(pattern, 0, 11)) return NO_SUCH;
    if (outside(swing, 0, 6) || (every != 0 && outside(every, 2, 8))) return OUT_OF_RANGE;
    if (played != null) return NOT_NOW;
    int before = patterns.get(pattern).swing;
    patterns.get(pattern).swing = swing;
    patterns.get(pattern).every = every;
    return before;
  }

  int freeze(int pattern, boolean isFrozen) {
    if (outside(pattern, 0, 11)) return NO_SUCH;
    Pattern p = patterns.get(pattern);
    boolean was = p.kept != null;
    if (!isFrozen) p.kept = null;
    if (isFrozen && !was) p.kept = tunes.clone();
    return was ? 1 : 0;
  }

  int addEntry(int song, int pattern, int repeats) {
    if (outside(song, 0, 5) || outside(pattern, 0, 11)) return NO_SUCH;
    if (outside(repeats, 1, 4)) return OUT_OF_RANGE;
    if (played != null || songs.get(song).size() == 8) return NOT_NOW;
    songs.get(song).add(new Entry(pattern, repeats, 0, 0));
    return songs.get(song).size() - 1;
  }

  int jump(int song, int entry, int to, int times) {
    if (outside(song, 0, 5)) return NO_SUCH;
    List<Entry> entries = songs.get(song);
    if (outside(entry, 0, entries.size() - 1) || outside(to, 0, entries.size() - 1)) return NO_SUCH;
    if (outside(times, 0, 3)) return OUT_OF_RANGE;
    if (played != null) return NOT_NOW;
    Entry old = entries.get(entry);
    entries.set(entry, new Entry(old.pattern(), old.repeats(), to, times));
    return barsOf(song).size();
  }

  private List<Bar> barsOf(int song) {
    List<Integer> heard = new ArrayList<>();
    List<Bar> bars = new ArrayList<>();
    List<Entry> entries = songs.get(song);
    int[] left = new int[8];
    for (int i = 0; i < entries.size(); i++) {
      left[i] = entries.get(i).times();
    }
    for (int i = 0; i < entries.size() && heard.size() < 64; ) {
      for (int repeat = 0; repeat < entries.get(i).repeats(); repeat++) {
        heard.add(entries.get(i).pattern());
      }
      if (left[i] > 0) {
        left[i]--;
        i = entries.get(i).to();
      } else {
        i++;
      }
    }
    for (int bar = 0; bar < Math.min(64, heard.size()); bar++) {
      int pattern = heard.get(bar);
      int count = 0;
      for (int before = 0; before <= bar; before++) {
        if (heard.get(before) == pattern) count++;
      }
      int every = patterns.get(pattern).every;
      bars.add(new Bar(pattern, every != 0 && count % every == 0, 0, bar));
    }
    return bars;
  }

  int bars(int song) {
    return outside(song, 0, 5) ? NO_SUCH : barsOf(song).size();
  }

  int barAt(int song, int bar) {
    if (outside(song, 0, 5)) return NO_SUCH;
    List<Bar> bars = barsOf(song);
    if (outside(bar, 0, bars.size() - 1)) return NO_SUCH;
    return 10 * bars.get(bar).pattern() + (bars.get(bar).isFill() ? 1 : 0);
  }

  int beats(int song) {
    if (outside(song, 0, 5)) return NO_SUCH;
    int count = 0;
    for (Bar bar : barsOf(song)) {
      Pattern pattern = patterns.get(bar.pattern());
      for (int step = 0; step < 16; step++) {
        for (int track = 0; track < 4; track++) {
          Integer[][] from = bar.isFill() && step > 11 ? pattern.fill : pattern.steps;
          if (from[track][step] != null) count++;
        }
      }
    }
    return count;
  }

  int addToSet(int song) {
    if (outside(song, 0, 5)) return NO_SUCH;
    if (played != null || setList.size() == 8) return NOT_NOW;
    setList.add(song);
    return setList.size();
  }

  int clearSet() {
    if (played != null) return NOT_NOW;
    int before = setList.size();
    setList.clear();
    return before;
  }

  int start() {
    if (played != null || setList.isEmpty()) return NOT_NOW;
    List<Bar> all = new ArrayList<>();
    for (int i = 0; i < setList.size(); i++) {
      List<Bar> bars = barsOf(setList.get(i));
      if (bars.isEmpty()) return NOT_NOW;
      for (Bar bar : bars) {
        all.add(new Bar(bar.pattern(), bar.isFill(), i, bar.number()));
      }
    }
    played = all;
    at = 0;
    tick = 0;
    memory.clear();
    hand = null;
    work = 0;
    return all.size();
  }

  int tick(int ticks) {
    if (outside(ticks, 1, 2000)) return OUT_OF_RANGE;
    if (played == null) return NOT_NOW;
    int before = sounds;
    for (int i = 0; i < ticks; i++) {
      if (played != null) pass();
    }
    return sounds - before;
  }

  private void pass() {
    Bar bar = played.get(at);
    Pattern pattern = patterns.get(bar.pattern());
    for (int track = 0; track < 4; track++) {
      Integer sample = pattern.used(bar.isFill(), track, tick);
      if (sample == null) continue;
      if (pagesOf(sample) == sizes[sample]) {
        sounds++;
        int tune = pattern.kept == null ? tunes[sample] : pattern.kept[sample];
        number = number * 31 + (sample * 100 + tune + 12);
      } else {
        misses++;
      }
    }
    if (hand == null) take();
    if (hand != null) {
      work++;
      if (work == 8) {
        memory.add(hand);
        hand = null;
        work = 0;
      }
    }
    tick++;
    if (tick == 192) {
      tick = 0;
      at++;
      if (at == played.size()) played = null;
    }
  }

  private int pagesOf(int sample) {
    int count = 0;
    for (int page : memory) {
      if (page == sample) count++;
    }
    return count;
  }

  private void take() {
    int[] uses = new int[8];
    for (int sample = 0; sample < 8; sample++) {
      uses[sample] = nextUse(sample);
    }
    int wanted = -1;
    for (int sample = 7; sample >= 0; sample--) {
      if (uses[sample] == -1 || pagesOf(sample) == sizes[sample]) continue;
      if (wanted == -1 || uses[sample] <= uses[wanted]) wanted = sample;
    }
    if (wanted == -1) return;
    if (memory.size() == 12) {
      int out = -1;
      for (int sample = 7; sample >= 0; sample--) {
        if (sample == wanted || pagesOf(sample) == 0) continue;
        if (out == -1 || isFarther(uses[sample], uses[out])) out = sample;
      }
      if (out == -1 || !isFarther(uses[out], uses[wanted])) return;
      memory.remove((Integer) out);
    }
    hand = wanted;
  }

  private static boolean isFarther(int use, int than) {
    return use == -1 ? than != -1 : than != -1 && use > than;
  }

  int skip() {
    if (played == null) return NOT_NOW;
    int song = played.get(at).song();
    while (at < played.size() && played.get(at).song() == song) {
      at++;
    }
    tick = 0;
    if (at == played.size()) played = null;
    return played == null ? -1 : played.get(at).song();
  }

  int place() {
    return played == null ? -1 : played.get(at).song() * 100000 + played.get(at).number() * 1000 + tick;
  }

  int loaded(int sample) {
    return outside(sample, 0, 7) ? NO_SUCH : pagesOf(sample);
  }

  int inHand() {
    return hand == null ? -1 : hand * 10 + work;
  }

  int nextUse(int sample) {
    if (outside(sample, 0, 7)) return NO_SUCH;
    if (played == null) return -1;
    for (int ahead = 0; ahead <= 3 && at + ahead < played.size(); ahead++) {
      Bar bar = played.get(at + ahead);
      Pattern pattern = patterns.get(bar.pattern());
      for (int step = 0; step < 16; step++) {
        int later = 192 * ahead + pattern.begin(step) - tick;
        for (int track = 0; later > 0 && track < 4; track++) {
          Integer used = (bar.isFill() && step >= 12 ? pattern.fill : pattern.steps)[track][step];
          if (used != null && used == sample) return later;
        }
      }
    }
    return -1;
  }

  int sounds() {
    return sounds;
  }

  int misses() {
    return misses;
  }

  int soundNumber() {
    return number;
  }
}
