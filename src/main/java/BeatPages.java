import java.util.Arrays;

/** A drum machine on a stage: patterns, songs, a set list, and samples paged into a small memory. */
public final class BeatPages {
  public static final int NONE = -1;

  private static final int SAMPLES = 8;
  private static final int MAX_SIZE = 6;
  private static final int MAX_TUNE = 12;
  private static final int PATTERNS = 12;
  private static final int TRACKS = 4;
  private static final int STEPS = 16;
  private static final int FIRST_FILL_STEP = 12;
  private static final int FILL_STEPS = STEPS - FIRST_FILL_STEP;
  private static final int MAX_SWING = 6;
  private static final int MIN_EVERY = 2;
  private static final int MAX_EVERY = 8;
  private static final int STEP_TICKS = 12;
  private static final int BAR_TICKS = STEPS * STEP_TICKS;
  private static final int SONGS = 6;
  private static final int MAX_ENTRIES = 8;
  private static final int MAX_REPEATS = 4;
  private static final int MAX_TIMES = 3;
  private static final int MAX_BARS = 64;
  private static final int MAX_SET = 8;
  private static final int MAX_TICKS = 2000;
  private static final int BARS_AHEAD = 3;
  private static final int ROOM = 12;
  private static final int PAGE_WORK = 8;

  /** A bar is told by a code, as barAt answers it: so many times the pattern, and 1 for a fill. */
  private static final int CODE_BASE = 10;

  /** A next use farther than any that there is: it lies behind the bars that are looked at. */
  private static final int NEVER = (BARS_AHEAD + 1) * BAR_TICKS;

  private final Row sizes = new Row(SAMPLES, 1);
  private final Row tunes = new Row(SAMPLES, 0);
  private final Patterns patterns = new Patterns();
  private final Songs songs = new Songs(patterns);
  private final Show show = new Show(songs);
  private final Lookahead lookahead = new Lookahead(patterns);
  private final Memory memory = new Memory(sizes, lookahead);
  private int dueBar = NONE;
  private int soundCount = 0;
  private int missCount = 0;
  private int number = 0;

  public BeatPages() {
  }

  // ---- samples and patterns

  public int setSize(int sample, int pages)
      throws IndexOutOfBoundsException, IllegalArgumentException, IllegalStateException {
    needSample(sample);
    needRange(pages, 1, MAX_SIZE);
    needNotPlayed();
    return sizes.replace(sample, pages);
  }

  public int tune(int sample, int tune) throws IndexOutOfBoundsException, IllegalArgumentException {
    needSample(sample);
    needRange(tune, -MAX_TUNE, MAX_TUNE);
    return tunes.replace(sample, tune);
  }

  public int setStep(int pattern, int track, int step, int sample)
      throws IndexOutOfBoundsException, IllegalStateException {
    needPattern(pattern);
    needIndex(track, 0, TRACKS - 1);
    needIndex(step, 0, STEPS - 1);
    needIndex(sample, NONE, SAMPLES - 1);
    needNotPlayed();
    return patterns.replaceStep(pattern, track, step, sample);
  }

  public int setFill(int pattern, int track, int step, int sample)
      throws IndexOutOfBoundsException, IllegalStateException {
    needPattern(pattern);
    needIndex(track, 0, TRACKS - 1);
    needIndex(step, FIRST_FILL_STEP, STEPS - 1);
    needIndex(sample, NONE, SAMPLES - 1);
    needNotPlayed();
    return patterns.replaceFill(pattern, track, step, sample);
  }

  public int setFeel(int pattern, int swing, int every)
      throws IndexOutOfBoundsException, IllegalArgumentException, IllegalStateException {
    needPattern(pattern);
    needRange(swing, 0, MAX_SWING);
    if (every != 0) {
      needRange(every, MIN_EVERY, MAX_EVERY);
    }
    needNotPlayed();
    return patterns.replaceFeel(pattern, swing, every);
  }

  public boolean freeze(int pattern, boolean isFrozen) throws IndexOutOfBoundsException {
    needPattern(pattern);
    return patterns.replaceFrozen(pattern, isFrozen, tunes);
  }

  // ---- songs

  public int addEntry(int song, int pattern, int repeats)
      throws IndexOutOfBoundsException, IllegalArgumentException, IllegalStateException {
    needSong(song);
    needPattern(pattern);
    needRange(repeats, 1, MAX_REPEATS);
    needNotPlayed();
    if (songs.countEntries(song) >= MAX_ENTRIES) {
      throw new IllegalStateException("the song has 8 entries");
    }
    return songs.append(song, pattern, repeats);
  }

  public int jump(int song, int entry, int to, int times)
      throws IndexOutOfBoundsException, IllegalArgumentException, IllegalStateException {
    needSong(song);
    needIndex(entry, 0, songs.countEntries(song) - 1);
    needIndex(to, 0, songs.countEntries(song) - 1);
    needRange(times, 0, MAX_TIMES);
    needNotPlayed();
    songs.giveJump(song, entry, to, times);
    return songs.countBars(song);
  }

  public int bars(int song) throws IndexOutOfBoundsException {
    needSong(song);
    return songs.countBars(song);
  }

  public int barAt(int song, int bar) throws IndexOutOfBoundsException {
    needSong(song);
    needIndex(bar, 0, songs.countBars(song) - 1);
    return songs.codeOf(song, bar);
  }

  public int beats(int song) throws IndexOutOfBoundsException {
    needSong(song);
    int count = 0;
    int end = songs.countBars(song);
    for (int bar = 0; bar < end; bar++) {
      count += patterns.countBySteps(songs.codeOf(song, bar));
    }
    return count;
  }

  public int beatsByTicks(int song) throws IndexOutOfBoundsException {
    needSong(song);
    int count = 0;
    int end = songs.countBars(song);
    for (int bar = 0; bar < end; bar++) {
      count += patterns.countByTicks(songs.codeOf(song, bar));
    }
    return count;
  }

  // ---- the set

  public int addToSet(int song) throws IndexOutOfBoundsException, IllegalStateException {
    needSong(song);
    needNotPlayed();
    if (show.isFull()) {
      throw new IllegalStateException("the set list has 8 songs");
    }
    return show.append(song);
  }

  public int clearSet() throws IllegalStateException {
    needNotPlayed();
    return show.removeAll();
  }

  public int start() throws IllegalStateException {
    needNotPlayed();
    if (!show.canBegin()) {
      throw new IllegalStateException("the set list is empty, or one of its songs has no bar");
    }
    show.begin();
    memory.empty();
    enterBar();
    return show.countBars();
  }

  public int tick(int ticks) throws IllegalArgumentException, IllegalStateException {
    needRange(ticks, 1, MAX_TICKS);
    needPlayed();
    int before = soundCount;
    for (int passed = 0; passed < ticks && show.isPlayed(); passed++) {
      passTick();
    }
    return soundCount - before;
  }

  public int skip() throws IllegalStateException {
    needPlayed();
    show.goToNextSong();
    if (!show.isPlayed()) {
      return NONE;
    }
    enterBar();
    return show.duePlace();
  }

  public int place() {
    return show.isPlayed() ? show.dueNumber() : NONE;
  }

  // ---- the memory

  public int loaded(int sample) throws IndexOutOfBoundsException {
    needSample(sample);
    return memory.countPages(sample);
  }

  public int inHand() {
    return memory.handNumber();
  }

  public int nextUse(int sample) throws IndexOutOfBoundsException {
    needSample(sample);
    if (!show.isPlayed()) {
      return NONE;
    }
    int use = lookahead.useAfter(show.dueTick(), sample);
    return use == NEVER ? NONE : use;
  }

  public int sounds() {
    return soundCount;
  }

  public int misses() {
    return missCount;
  }

  public int soundNumber() {
    return number;
  }

  // ---- how a tick passes

  private void passTick() {
    int tick = show.dueTick();
    int step = patterns.stepAt(dueBar, tick);
    if (step != NONE) {
      playStep(step);
    }
    memory.load(tick);
    show.goToNextTick();
    if (show.isPlayed() && show.dueTick() == 0) {
      enterBar();
    }
  }

  private void playStep(int step) {
    for (int track = 0; track < TRACKS; track++) {
      int sample = patterns.sampleAt(dueBar, track, step);
      if (sample != NONE) {
        playSample(sample);
      }
    }
  }

  private void playSample(int sample) {
    if (!memory.hasAllPages(sample)) {
      missCount++;
      return;
    }
    soundCount++;
    int tune = patterns.tuneIn(dueBar, sample, tunes);
    number = 31 * number + 100 * sample + tune + 12;
  }

  // No pattern or song changes while the set is played, so one look at each bar is enough.
  private void enterBar() {
    dueBar = show.codeAhead(0);
    lookahead.forget();
    for (int ahead = BARS_AHEAD; ahead > 0; ahead--) {
      int code = show.codeAhead(ahead);
      if (code != NONE) {
        lookahead.noteBar(code, ahead * BAR_TICKS);
      }
    }
    lookahead.noteDueBar(dueBar);
  }

  // ---- what is refused

  private static void needIndex(int index, int lowest, int highest) {
    if (index < lowest || index > highest) {
      throw new IndexOutOfBoundsException("there is none of this number");
    }
  }

  private static void needSample(int sample) {
    needIndex(sample, 0, SAMPLES - 1);
  }

  private static void needPattern(int pattern) {
    needIndex(pattern, 0, PATTERNS - 1);
  }

  private static void needSong(int song) {
    needIndex(song, 0, SONGS - 1);
  }

  private static void needRange(int value, int lowest, int highest) {
    if (value < lowest || value > highest) {
      throw new IllegalArgumentException("an argument is out of its range");
    }
  }

  private void needPlayed() {
    if (!show.isPlayed()) {
      throw new IllegalStateException("the set is not played");
    }
  }

  private void needNotPlayed() {
    if (show.isPlayed()) {
      throw new IllegalStateException("the set is played");
    }
  }

  /** A row of numbers that looks at each index, so that the machine never has to refuse one. */
  private static final class Row {
    private final int[] cells;

    Row(int length, int value) {
      cells = new int[Math.max(length, 0)];
      Arrays.fill(cells, value);
    }

    int get(int index) {
      return index >= 0 && index < cells.length ? cells[index] : NONE;
    }

    int replace(int index, int value) {
      if (index < 0 || index >= cells.length) {
        return NONE;
      }
      int before = cells[index];
      cells[index] = value;
      return before;
    }

    void setAll(int value) {
      Arrays.fill(cells, value);
    }
  }

  /** All patterns: their steps, fills and feels, and the tunes that frozen ones keep. */
  private static final class Patterns {
    private final Row steps = new Row(PATTERNS * TRACKS * STEPS, NONE);
    private final Row fills = new Row(PATTERNS * TRACKS * FILL_STEPS, NONE);
    private final Row swings = new Row(PATTERNS, 0);
    private final Row everys = new Row(PATTERNS, 0);
    private final Row frozen = new Row(PATTERNS, 0);
    private final Row keptTunes = new Row(PATTERNS * SAMPLES, 0);

    int replaceStep(int pattern, int track, int step, int sample) {
      return steps.replace(stepIndex(pattern, track, step), sample);
    }

    int replaceFill(int pattern, int track, int step, int sample) {
      return fills.replace(fillIndex(pattern, track, step), sample);
    }

    int replaceFeel(int pattern, int swing, int every) {
      everys.replace(pattern, every);
      return swings.replace(pattern, swing);
    }

    boolean replaceFrozen(int pattern, boolean isFrozen, Row tunes) {
      boolean wasFrozen = frozen.replace(pattern, isFrozen ? 1 : 0) == 1;
      if (isFrozen && !wasFrozen) {
        for (int sample = 0; sample < SAMPLES; sample++) {
          keptTunes.replace(pattern * SAMPLES + sample, tunes.get(sample));
        }
      }
      return wasFrozen;
    }

    int codeFor(int pattern, int turn) {
      int every = everys.get(pattern);
      boolean hasFill = every > 0 && turn % every == 0;
      return CODE_BASE * pattern + (hasFill ? 1 : 0);
    }

    int tuneIn(int code, int sample, Row tunes) {
      int pattern = code / CODE_BASE;
      boolean isFrozen = frozen.get(pattern) == 1;
      return isFrozen ? keptTunes.get(pattern * SAMPLES + sample) : tunes.get(sample);
    }

    int sampleAt(int code, int track, int step) {
      int pattern = code / CODE_BASE;
      boolean isFill = code % CODE_BASE == 1 && step >= FIRST_FILL_STEP;
      return isFill
          ? fills.get(fillIndex(pattern, track, step))
          : steps.get(stepIndex(pattern, track, step));
    }

    int tickOf(int code, int step) {
      int swing = step % 2 == 1 ? swings.get(code / CODE_BASE) : 0;
      return step * STEP_TICKS + swing;
    }

    /** The step that begins at a tick of a bar, or NONE. */
    int stepAt(int code, int tick) {
      int step = tick / STEP_TICKS;
      return tickOf(code, step) == tick ? step : NONE;
    }

    int countBySteps(int code) {
      int count = 0;
      for (int step = 0; step < STEPS; step++) {
        count += countStep(code, step);
      }
      return count;
    }

    int countByTicks(int code) {
      int count = 0;
      for (int tick = 0; tick < BAR_TICKS; tick++) {
        int step = stepAt(code, tick);
        if (step != NONE) {
          count += countStep(code, step);
        }
      }
      return count;
    }

    private int countStep(int code, int step) {
      int count = 0;
      for (int track = 0; track < TRACKS; track++) {
        if (sampleAt(code, track, step) != NONE) {
          count++;
        }
      }
      return count;
    }

    private static int stepIndex(int pattern, int track, int step) {
      return (pattern * TRACKS + track) * STEPS + step;
    }

    private static int fillIndex(int pattern, int track, int step) {
      return (pattern * TRACKS + track) * FILL_STEPS + step - FIRST_FILL_STEP;
    }
  }

  /** All songs: their entries, and the bars that these give, laid anew with each change. */
  private static final class Songs {
    private final Patterns patterns;
    private final Row entryCounts = new Row(SONGS, 0);
    private final Row entryPatterns = new Row(SONGS * MAX_ENTRIES, NONE);
    private final Row repeats = new Row(SONGS * MAX_ENTRIES, 0);
    private final Row jumpTargets = new Row(SONGS * MAX_ENTRIES, NONE);
    private final Row jumpTimes = new Row(SONGS * MAX_ENTRIES, 0);
    private final Row barCounts = new Row(SONGS, 0);
    private final Row barPatterns = new Row(SONGS * MAX_BARS, NONE);
    private final Row barTurns = new Row(SONGS * MAX_BARS, 0);
    private final Row jumpsDone = new Row(MAX_ENTRIES, 0);
    private final Row patternTurns = new Row(PATTERNS, 0);

    Songs(Patterns patterns) {
      this.patterns = patterns;
    }

    int countEntries(int song) {
      return entryCounts.get(song);
    }

    int countBars(int song) {
      return barCounts.get(song);
    }

    int codeOf(int song, int bar) {
      int index = song * MAX_BARS + bar;
      return patterns.codeFor(barPatterns.get(index), barTurns.get(index));
    }

    int append(int song, int pattern, int times) {
      int entry = entryCounts.get(song);
      entryPatterns.replace(song * MAX_ENTRIES + entry, pattern);
      repeats.replace(song * MAX_ENTRIES + entry, times);
      entryCounts.replace(song, entry + 1);
      layBars(song);
      return entry;
    }

    void giveJump(int song, int entry, int to, int times) {
      jumpTargets.replace(song * MAX_ENTRIES + entry, to);
      jumpTimes.replace(song * MAX_ENTRIES + entry, times);
      layBars(song);
    }

    private void layBars(int song) {
      jumpsDone.setAll(0);
      patternTurns.setAll(0);
      int bar = 0;
      int entry = 0;
      int repeat = 0;
      while (bar < MAX_BARS && entry < entryCounts.get(song)) {
        layBar(song, bar, entry);
        bar++;
        repeat++;
        if (repeat >= repeats.get(song * MAX_ENTRIES + entry)) {
          repeat = 0;
          entry = leaveEntry(song, entry);
        }
      }
      barCounts.replace(song, bar);
    }

    private void layBar(int song, int bar, int entry) {
      int pattern = entryPatterns.get(song * MAX_ENTRIES + entry);
      int turn = patternTurns.get(pattern) + 1;
      patternTurns.replace(pattern, turn);
      barPatterns.replace(song * MAX_BARS + bar, pattern);
      barTurns.replace(song * MAX_BARS + bar, turn);
    }

    private int leaveEntry(int song, int entry) {
      int done = jumpsDone.get(entry);
      if (done >= jumpTimes.get(song * MAX_ENTRIES + entry)) {
        return entry + 1;
      }
      jumpsDone.replace(entry, done + 1);
      return jumpTargets.get(song * MAX_ENTRIES + entry);
    }
  }

  /** The set list, and the tick of it that is due while it is played. */
  private static final class Show {
    private final Songs songs;
    private final Row list = new Row(MAX_SET, NONE);
    private int length = 0;
    private boolean played = false;
    private int place = 0;
    private int bar = 0;
    private int tick = 0;

    Show(Songs songs) {
      this.songs = songs;
    }

    boolean isFull() {
      return length >= MAX_SET;
    }

    int append(int song) {
      list.replace(length, song);
      length++;
      return length;
    }

    int removeAll() {
      int before = length;
      length = 0;
      return before;
    }

    boolean canBegin() {
      for (int at = 0; at < length; at++) {
        if (barsAt(at) == 0) {
          return false;
        }
      }
      return length > 0;
    }

    int countBars() {
      int count = 0;
      for (int at = 0; at < length; at++) {
        count += barsAt(at);
      }
      return count;
    }

    boolean isPlayed() {
      return played;
    }

    void begin() {
      played = true;
      place = 0;
      bar = 0;
      tick = 0;
    }

    void goToNextTick() {
      tick++;
      if (tick < BAR_TICKS) {
        return;
      }
      tick = 0;
      bar++;
      if (bar >= barsAt(place)) {
        goToNextSong();
      }
    }

    void goToNextSong() {
      place++;
      bar = 0;
      tick = 0;
      played = place < length;
    }

    int dueTick() {
      return tick;
    }

    int duePlace() {
      return place;
    }

    int dueNumber() {
      return 100000 * place + 1000 * bar + tick;
    }

    /** The code of the bar so many bars ahead of the due one, or NONE behind the set's last one. */
    int codeAhead(int ahead) {
      int at = place;
      int rest = bar + ahead;
      while (at < length && rest >= barsAt(at)) {
        rest -= barsAt(at);
        at++;
      }
      return at < length ? songs.codeOf(list.get(at), rest) : NONE;
    }

    private int barsAt(int at) {
      return songs.countBars(list.get(at));
    }
  }

  /** The next use of each sample, seen from each tick of the due bar. */
  private static final class Lookahead {
    private final Patterns patterns;
    private final Row uses = new Row(BAR_TICKS * SAMPLES, NEVER);
    private final Row coming = new Row(SAMPLES, NEVER);

    Lookahead(Patterns patterns) {
      this.patterns = patterns;
    }

    int useAfter(int tick, int sample) {
      return uses.get(tick * SAMPLES + sample);
    }

    void forget() {
      coming.setAll(NEVER);
    }

    /** Bars and steps are noted from the last one back, so that an earlier use takes a later one's place. */
    void noteBar(int code, int firstTick) {
      for (int step = STEPS - 1; step >= 0; step--) {
        noteStep(code, step, firstTick + patterns.tickOf(code, step));
      }
    }

    void noteDueBar(int code) {
      for (int tick = BAR_TICKS - 1; tick >= 0; tick--) {
        keepUses(tick);
        int step = patterns.stepAt(code, tick);
        if (step != NONE) {
          noteStep(code, step, tick);
        }
      }
    }

    private void noteStep(int code, int step, int tick) {
      for (int track = 0; track < TRACKS; track++) {
        int sample = patterns.sampleAt(code, track, step);
        if (sample != NONE) {
          coming.replace(sample, tick);
        }
      }
    }

    private void keepUses(int tick) {
      for (int sample = 0; sample < SAMPLES; sample++) {
        int use = coming.get(sample);
        uses.replace(tick * SAMPLES + sample, use == NEVER ? NEVER : use - tick);
      }
    }
  }

  /** The memory's pages, and the loader with the page that it has in hand. */
  private static final class Memory {
    private final Row sizes;
    private final Lookahead lookahead;
    private final Row pages = new Row(SAMPLES, 0);
    private int pageCount = 0;
    private int hand = NONE;
    private int work = 0;

    Memory(Row sizes, Lookahead lookahead) {
      this.sizes = sizes;
      this.lookahead = lookahead;
    }

    void empty() {
      pages.setAll(0);
      pageCount = 0;
      hand = NONE;
    }

    int countPages(int sample) {
      return pages.get(sample);
    }

    boolean hasAllPages(int sample) {
      return pages.get(sample) >= sizes.get(sample);
    }

    int handNumber() {
      return hand == NONE ? NONE : 10 * hand + work;
    }

    void load(int tick) {
      if (hand == NONE) {
        takeInHand(tick);
      }
      if (hand != NONE) {
        workOn();
      }
    }

    private void takeInHand(int tick) {
      int sample = findNearest(tick);
      if (sample == NONE) {
        return;
      }
      if (pageCount >= ROOM) {
        int other = findFarthest(tick, sample);
        if (other == NONE || lookahead.useAfter(tick, other) <= lookahead.useAfter(tick, sample)) {
          return;
        }
        addPage(other, -1);
      }
      hand = sample;
      work = 0;
    }

    private void workOn() {
      work++;
      if (work >= PAGE_WORK) {
        addPage(hand, 1);
        hand = NONE;
      }
    }

    private void addPage(int sample, int change) {
      pages.replace(sample, pages.get(sample) + change);
      pageCount += change;
    }

    private int findNearest(int tick) {
      int found = NONE;
      int nearest = NEVER;
      for (int sample = 0; sample < SAMPLES; sample++) {
        int use = lookahead.useAfter(tick, sample);
        if (use < nearest && !hasAllPages(sample)) {
          found = sample;
          nearest = use;
        }
      }
      return found;
    }

    private int findFarthest(int tick, int except) {
      int found = NONE;
      int farthest = 0;
      for (int sample = 0; sample < SAMPLES; sample++) {
        int use = lookahead.useAfter(tick, sample);
        if (sample != except && pages.get(sample) > 0 && use >= farthest) {
          found = sample;
          farthest = use;
        }
      }
      return found;
    }
  }
}
