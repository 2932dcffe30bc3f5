import java.util.Arrays;

/**
 * Up to eight small machines on one host with few frames of memory. Each guest believes that it
 * has a machine of its own; the host keeps what the guests' frames hold in SHEETS, which guests
 * share until one of them writes, and which are put away when the host's frames run short.
 */
public final class GuestHouse {
  private static final int NONE = -1;
  private static final int WRONG = -1;
  private static final int NO_ADDRESS = -2;
  private static final int FULL = -12;
  private static final int NO_GUEST = -14;

  private static final int WORDS = 64;
  private static final int MOST_GUESTS = 8;
  private static final int MOST_FRAMES = 64;
  private static final int LEAST_HOST_FRAMES = 4;
  private static final int MOST_HOST_FRAMES = 256;
  private static final int MOST_SLICE = 1000;
  private static final int MOST_STEPS = 2000;
  private static final int MOST_WAITING = 64;
  private static final int MOST_KEPT = 1000;
  private static final int SECTORS = 16;
  private static final int PAGES = 256;

  private static final int STOPPED = 0;
  private static final int RUNNING = 1;
  private static final int WAITING = 2;
  private static final int HALTED = 3;

  private static final int STATUS = 0;
  private static final int CAUSE = 1;
  private static final int EPC = 2;
  private static final int BAD = 3;
  private static final int VECTOR = 4;
  private static final int ROOT = 5;
  private static final int TIMER = 6;
  private static final int COUNT = 8;
  private static final int SIZE = 9;
  private static final int CONTROLS = 10;

  private static final int ON = 1;
  private static final int ON_BEFORE = 2;
  private static final int MODE_BEFORE = 4;
  private static final int FOR_TIMER = 256;
  private static final int FOR_ARRIVALS = 512;
  private static final int FOR_TIME = 1024;
  private static final int ENABLES = FOR_TIMER | FOR_ARRIVALS | FOR_TIME;
  private static final int STATUS_BITS = ENABLES | ON | ON_BEFORE | MODE_BEFORE;

  private final Host host = new Host();
  private final Processor processor = new Processor(host);
  private final Guest[] guests = new Guest[MOST_GUESTS];
  private int slice;
  private int current;
  private int left;
  private int steps;

  public GuestHouse() {
    settle(8, 10);
  }

  public int install(int h, int slice) {
    if (h < LEAST_HOST_FRAMES || h > MOST_HOST_FRAMES || slice < 1 || slice > MOST_SLICE) {
      return WRONG;
    }
    settle(h, slice);
    return 0;
  }

  public int guest(int frames) {
    if (frames < 1 || frames > MOST_FRAMES) {
      return WRONG;
    }
    int number = leastFree();
    if (number == NONE) {
      return FULL;
    }
    Guest made = room(number);
    made.renew(frames);
    host.lendBlank(made);
    return number;
  }

  public int poke(int g, int address, int v) {
    Guest found = find(g);
    if (found == null) {
      return NO_GUEST;
    }
    if (found.phase != STOPPED) {
      return WRONG;
    }
    if (!found.hasWord(address)) {
      return NO_ADDRESS;
    }
    host.write(found, address, v);
    return 0;
  }

  public int pokeDisk(int g, int i, int v) {
    Guest found = find(g);
    if (found == null) {
      return NO_GUEST;
    }
    if (found.phase != STOPPED) {
      return WRONG;
    }
    if (i < 0 || i >= found.sectors.length) {
      return NO_ADDRESS;
    }
    found.sectors[i] = v;
    return 0;
  }

  public int start(int g, int pc) {
    Guest found = find(g);
    if (found == null) {
      return NO_GUEST;
    }
    if (found.phase != STOPPED) {
      return WRONG;
    }
    found.reset();
    found.pc = pc;
    found.mode = 1;
    found.phase = RUNNING;
    return 0;
  }

  public int stop(int g) {
    Guest found = find(g);
    if (found == null) {
      return NO_GUEST;
    }
    found.phase = STOPPED;
    return 0;
  }

  public int input(int g, int v) {
    Guest found = find(g);
    if (found == null) {
      return NO_GUEST;
    }
    if (!found.arrive(v)) {
      return FULL;
    }
    if (found.phase == WAITING) {
      found.phase = RUNNING;
    }
    return 0;
  }

  public int copy(int g) {
    Guest found = find(g);
    if (found == null) {
      return NO_GUEST;
    }
    int number = leastFree();
    if (number == NONE) {
      return FULL;
    }
    Guest twin = room(number);
    twin.become(found);
    host.shareSheets(found, twin);
    return number;
  }

  public int drop(int g) {
    Guest found = find(g);
    if (found == null) {
      return NO_GUEST;
    }
    host.release(found);
    found.here = false;
    return 0;
  }

  public int run(int n) {
    if (n < 0 || n > MOST_STEPS) {
      return WRONG;
    }
    int done = 0;
    while (done < n) {
      Guest turn = nextTurn();
      if (turn == null) {
        break;
      }
      processor.step(turn);
      left--;
      done++;
    }
    steps += done;
    return done;
  }

  public int only(int g, int n) {
    Guest found = find(g);
    if (found == null) {
      return NO_GUEST;
    }
    if (n < 0 || n > MOST_STEPS) {
      return WRONG;
    }
    int done = 0;
    while (done < n && found.phase == RUNNING) {
      processor.step(found);
      done++;
    }
    steps += done;
    return done;
  }

  public int state(int g) {
    Guest found = find(g);
    return found == null ? NO_GUEST : found.phase;
  }

  public int told(int g, int what) {
    Guest found = find(g);
    return found == null ? 0 : found.tell(what);
  }

  public int peek(int g, int address) {
    Guest found = find(g);
    return found == null ? 0 : host.read(found, address);
  }

  public int disk(int g, int i) {
    Guest found = find(g);
    return found == null || i < 0 || i >= found.sectors.length ? 0 : found.sectors[i];
  }

  public int out(int g, int i) {
    Guest found = find(g);
    return found == null || i < 0 || i >= found.keptCount() ? 0 : found.kept[i];
  }

  public int cached(int g, int page) {
    Guest found = find(g);
    return found == null || page < 0 || page >= PAGES ? NONE : found.cache[page];
  }

  public int house(int what) {
    switch (what) {
      case 0:
        return current;
      case 1:
        return left;
      case 2:
        return countGuests();
      case 3:
        return steps;
      default:
        return 0;
    }
  }

  public int audit() {
    int wrong = host.countFaults(guests);
    for (int i = 0; i < MOST_GUESTS; i++) {
      Guest found = find(i);
      wrong += found == null ? 0 : found.countFaults();
    }
    return wrong;
  }

  private void settle(int h, int sliceOfSteps) {
    host.renew(h);
    for (int i = 0; i < MOST_GUESTS; i++) {
      if (guests[i] != null) {
        guests[i].here = false;
      }
    }
    slice = sliceOfSteps;
    current = MOST_GUESTS - 1;
    left = 0;
    steps = 0;
  }

  private Guest find(int number) {
    if (number < 0 || number >= MOST_GUESTS) {
      return null;
    }
    Guest found = guests[number];
    return found != null && found.here ? found : null;
  }

  private int leastFree() {
    for (int i = 0; i < MOST_GUESTS; i++) {
      if (find(i) == null) {
        return i;
      }
    }
    return NONE;
  }

  private int countGuests() {
    int count = 0;
    for (int i = 0; i < MOST_GUESTS; i++) {
      count += find(i) == null ? 0 : 1;
    }
    return count;
  }

  /** Dropped guests' rows are used again, so that many guests in turn cost no more than eight. */
  private Guest room(int number) {
    int place = number & (MOST_GUESTS - 1);
    Guest found = guests[place];
    if (found == null) {
      found = new Guest();
      guests[place] = found;
    }
    return found;
  }

  /** The guest whose step is next, or null if none runs; then current and LEFT stay. */
  private Guest nextTurn() {
    Guest turn = find(current);
    if (left > 0 && turn != null && turn.phase == RUNNING) {
      return turn;
    }
    for (int i = 1; i <= MOST_GUESTS; i++) {
      int number = (current + i) % MOST_GUESTS;
      turn = find(number);
      if (turn != null && turn.phase == RUNNING) {
        current = number;
        left = slice;
        return turn;
      }
    }
    return null;
  }

  /** What one machine shows of itself; its memory's words are with the host. */
  private static final class Guest {
    private boolean here;
    private int phase;
    private int pc;
    private int mode;
    private int place;
    private int traps;
    private int frames;
    /** For each frame the host's sheet that holds it. */
    private final int[] sheets = new int[MOST_FRAMES];
    private final int[] sectors = new int[SECTORS * WORDS];
    private final int[] registers = new int[8];
    private final int[] controls = new int[CONTROLS];
    /** For each page NONE, or 8 times the frame, with 1 for W, 2 for U, 4 for D. */
    private final int[] cache = new int[PAGES];
    /** A ring: it begins at the oldest word. */
    private final int[] arrivals = new int[MOST_WAITING];
    private int oldest;
    private int waiting;
    private final int[] kept = new int[MOST_KEPT];
    private int putCount;

    void renew(int size) {
      here = true;
      phase = STOPPED;
      frames = size;
      reset();
      Arrays.fill(sectors, 0);
      oldest = 0;
      waiting = 0;
      putCount = 0;
    }

    /** What a start sets back; memory, disk and the console's words are not of it. */
    void reset() {
      Arrays.fill(registers, 0);
      Arrays.fill(controls, 0);
      controls[SIZE] = frames;
      pc = 0;
      mode = 0;
      place = 0;
      traps = 0;
      emptyCache();
    }

    void become(Guest other) {
      here = true;
      phase = other.phase;
      pc = other.pc;
      mode = other.mode;
      place = other.place;
      traps = other.traps;
      frames = other.frames;
      oldest = other.oldest;
      waiting = other.waiting;
      putCount = other.putCount;
      System.arraycopy(other.sectors, 0, sectors, 0, SECTORS * WORDS);
      System.arraycopy(other.registers, 0, registers, 0, 8);
      System.arraycopy(other.controls, 0, controls, 0, CONTROLS);
      System.arraycopy(other.cache, 0, cache, 0, PAGES);
      System.arraycopy(other.arrivals, 0, arrivals, 0, MOST_WAITING);
      System.arraycopy(other.kept, 0, kept, 0, MOST_KEPT);
    }

    boolean hasWord(int address) {
      return address >= 0 && address < WORDS * frames;
    }

    void emptyCache() {
      Arrays.fill(cache, NONE);
    }

    boolean arrive(int v) {
      if (waiting >= MOST_WAITING) {
        return false;
      }
      arrivals[(oldest + waiting) & (MOST_WAITING - 1)] = v;
      waiting++;
      return true;
    }

    int takeOldest() {
      if (waiting <= 0) {
        return 0;
      }
      int v = arrivals[oldest & (MOST_WAITING - 1)];
      oldest = (oldest + 1) & (MOST_WAITING - 1);
      waiting--;
      return v;
    }

    void putOut(int v) {
      if (putCount >= 0 && putCount < MOST_KEPT) {
        kept[putCount] = v;
      }
      putCount++;
    }

    int keptCount() {
      return Math.min(putCount, MOST_KEPT);
    }

    boolean timerIsUp() {
      return controls[TIMER] != 0 && controls[COUNT] - controls[TIMER] >= 0;
    }

    void enterTrap(int cause, int bad) {
      int status = controls[STATUS];
      int before = ((status & ON) != 0 ? ON_BEFORE : 0) | (mode != 0 ? MODE_BEFORE : 0);
      controls[STATUS] = (status & ENABLES) | before;
      controls[CAUSE] = cause;
      controls[EPC] = pc;
      controls[BAD] = bad;
      mode = 1;
      pc = controls[VECTOR];
      traps++;
    }

    void leaveTrap() {
      int status = controls[STATUS];
      int now = (status & ON_BEFORE) != 0 ? ON : 0;
      controls[STATUS] = (status & ENABLES) | ON_BEFORE | now;
      mode = (status & MODE_BEFORE) != 0 ? 1 : 0;
    }

    int tell(int what) {
      if (what >= 0 && what < 8) {
        return registers[what];
      }
      if (what >= 10 && what < 10 + CONTROLS) {
        return controls[what - 10];
      }
      switch (what) {
        case 8:
          return pc;
        case 9:
          return mode;
        case 20:
          return waiting;
        case 21:
          return putCount;
        case 22:
          return place;
        case 23:
          return traps;
        default:
          return 0;
      }
    }

    int countFaults() {
      int wrong = (controls[STATUS] & ~STATUS_BITS) != 0 ? 1 : 0;
      wrong += controls[SIZE] != frames ? 1 : 0;
      wrong += mode != 0 && mode != 1 ? 1 : 0;
      wrong += waiting < 0 || waiting > MOST_WAITING ? 1 : 0;
      int root = controls[ROOT];
      for (int page = 0; page < PAGES; page++) {
        int entry = cache[page];
        boolean tableIsThere = root < 0 && hasWord(WORDS * (root & 63) + page);
        boolean right = entry == NONE || entry >= 0 && entry >> 3 < frames && tableIsThere;
        wrong += right ? 0 : 1;
      }
      return wrong;
    }
  }

  /**
   * The host's frames, and the room where sheets are put away. Sheet s has the words from 64 s on
   * of that room for its own, so nothing has to be looked for there.
   */
  private static final class Host {
    /** Sheet 0 is all 0; every frame that was never written is this one. */
    private static final int BLANK = 0;
    /** One for each frame that guests can have, so a guest that stops sharing always finds one. */
    private static final int SHEETS = MOST_GUESTS * MOST_FRAMES + 1;

    private int frames;
    /** Frames from here on were never used since renew(), and memory may be too short for them. */
    private int opened;
    private int hand;
    private int freeCount;
    private int[] memory = new int[LEAST_HOST_FRAMES * WORDS];
    private int[] away = new int[LEAST_HOST_FRAMES * WORDS];
    private final int[] owner = new int[MOST_HOST_FRAMES];
    private final boolean[] recent = new boolean[MOST_HOST_FRAMES];
    private final int[] uses = new int[SHEETS];
    private final int[] where = new int[SHEETS];
    /** Whether the words put away are not those in memory. */
    private final boolean[] changed = new boolean[SHEETS];
    private final int[] free = new int[SHEETS];
    private final int[] seen = new int[SHEETS];

    void renew(int h) {
      frames = h;
      opened = 0;
      hand = 0;
      Arrays.fill(owner, NONE);
      Arrays.fill(uses, 0);
      Arrays.fill(where, NONE);
      for (int s = 0; s < SHEETS; s++) {
        changed[s] = false;
      }
      // The host itself holds the blank sheet, so that no guest ever has it alone and writes it.
      uses[BLANK] = 1;
      freeCount = 0;
      for (int s = SHEETS - 1; s > BLANK; s--) {
        free[freeCount] = s;
        freeCount++;
      }
    }

    void lendBlank(Guest g) {
      for (int i = 0; i < g.frames && i < MOST_FRAMES; i++) {
        g.sheets[i] = BLANK;
        uses[BLANK]++;
      }
    }

    void shareSheets(Guest from, Guest to) {
      for (int i = 0; i < from.frames && i < MOST_FRAMES; i++) {
        int sheet = from.sheets[i];
        to.sheets[i] = sheet;
        if (isSheet(sheet)) {
          uses[sheet]++;
        }
      }
    }

    void release(Guest g) {
      for (int i = 0; i < g.frames && i < MOST_FRAMES; i++) {
        int sheet = g.sheets[i];
        if (isSheet(sheet)) {
          uses[sheet]--;
          if (uses[sheet] == 0) {
            freeSheet(sheet);
          }
        }
      }
    }

    int read(Guest g, int at) {
      int f = g.hasWord(at) ? bring(g.sheets[at >> 6]) : NONE;
      return f == NONE ? 0 : memory[f * WORDS + (at & 63)];
    }

    void write(Guest g, int at, int v) {
      int f = g.hasWord(at) ? bring(g.sheets[at >> 6]) : NONE;
      // A word that stays as it is leaves a shared sheet shared.
      if (f == NONE || memory[f * WORDS + (at & 63)] == v) {
        return;
      }
      f = makeOwn(g, at >> 6, f);
      if (f != NONE) {
        memory[f * WORDS + (at & 63)] = v;
      }
    }

    void saveFrame(Guest g, int frame, int sector) {
      int f = bring(g.sheets[frame & 63]);
      if (f != NONE) {
        System.arraycopy(memory, f * WORDS, g.sectors, (sector & 15) * WORDS, WORDS);
      }
    }

    void loadFrame(Guest g, int frame, int sector) {
      int f = bring(g.sheets[frame & 63]);
      if (f != NONE) {
        f = makeOwn(g, frame & 63, f);
      }
      if (f != NONE) {
        System.arraycopy(g.sectors, (sector & 15) * WORDS, memory, f * WORDS, WORDS);
      }
    }

    /** How many of the host's tables' entries contradict one another, or the memory. */
    int countFaults(Guest[] guests) {
      return countWrongUses(guests) + countWrongSheets() + countWrongFrames() + countWrongFree();
    }

    private boolean isSheet(int sheet) {
      return sheet >= 0 && sheet < SHEETS;
    }

    /** The host frame that has the sheet from now on; NONE only for what is no sheet. */
    private int bring(int sheet) {
      if (!isSheet(sheet)) {
        return NONE;
      }
      int f = where[sheet];
      if (f == NONE) {
        f = takeFrame(NONE);
        if (f == NONE) {
          return NONE;
        }
        System.arraycopy(away, sheet * WORDS, memory, f * WORDS, WORDS);
        owner[f] = sheet;
        where[sheet] = f;
      }
      recent[f] = true;
      return f;
    }

    /** The frame where the guest may write: that of its sheet, or of a copy if others use it. */
    private int makeOwn(Guest g, int frame, int from) {
      int sheet = g.sheets[frame & 63];
      if (!isSheet(sheet)) {
        return NONE;
      }
      if (uses[sheet] == 1) {
        changed[sheet] = true;
        return from;
      }
      int to = takeFrame(from);
      int fresh = to == NONE ? NONE : takeSheet();
      if (fresh == NONE) {
        return NONE;
      }
      System.arraycopy(memory, from * WORDS, memory, to * WORDS, WORDS);
      uses[sheet]--;
      uses[fresh] = 1;
      where[fresh] = to;
      changed[fresh] = true;
      owner[to] = fresh;
      recent[to] = true;
      g.sheets[frame & 63] = fresh;
      return to;
    }

    /** A frame with no sheet; if need be, one not used lately is put away, but never KEEP. */
    private int takeFrame(int keep) {
      if (opened < frames) {
        opened++;
        if (memory.length < opened * WORDS) {
          memory = Arrays.copyOf(memory, 2 * memory.length);
        }
        return opened - 1;
      }
      // The first round may do no more than forget what was recent; the second finds one.
      for (int i = 0; i < 2 * frames; i++) {
        int f = hand;
        hand = hand + 1 < frames ? hand + 1 : 0;
        int sheet = owner[f];
        if (sheet == NONE) {
          return f;
        }
        if (f != keep && !recent[f]) {
          if (changed[sheet]) {
            System.arraycopy(memory, f * WORDS, away, sheet * WORDS, WORDS);
            changed[sheet] = false;
          }
          where[sheet] = NONE;
          owner[f] = NONE;
          return f;
        }
        recent[f] = false;
      }
      return NONE;
    }

    private int takeSheet() {
      if (freeCount <= 0) {
        return NONE;
      }
      freeCount--;
      int sheet = free[freeCount];
      if (away.length < (sheet + 1) * WORDS) {
        int doubled = Math.min(2 * away.length, SHEETS * WORDS);
        away = Arrays.copyOf(away, Math.max((sheet + 1) * WORDS, doubled));
      }
      return sheet;
    }

    private void freeSheet(int sheet) {
      int f = where[sheet];
      if (f != NONE) {
        owner[f] = NONE;
        where[sheet] = NONE;
      }
      changed[sheet] = false;
      if (freeCount < SHEETS) {
        free[freeCount] = sheet;
        freeCount++;
      }
    }

    private int countWrongUses(Guest[] guests) {
      int wrong = 0;
      Arrays.fill(seen, 0);
      seen[BLANK] = 1;
      for (int i = 0; i < guests.length; i++) {
        Guest g = guests[i];
        for (int k = 0; g != null && g.here && k < g.frames && k < MOST_FRAMES; k++) {
          if (isSheet(g.sheets[k])) {
            seen[g.sheets[k]]++;
          } else {
            wrong++;
          }
        }
      }
      for (int s = 0; s < SHEETS; s++) {
        wrong += seen[s] == uses[s] ? 0 : 1;
      }
      return wrong;
    }

    private int countWrongSheets() {
      int wrong = 0;
      for (int s = 0; s < SHEETS; s++) {
        int f = where[s];
        if (f == NONE) {
          wrong += changed[s] ? 1 : 0;
        } else if (f < 0 || f >= opened || owner[f] != s || uses[s] < 1) {
          wrong++;
        } else if (!changed[s]) {
          wrong += countDifferent(f, s);
        }
      }
      for (int i = 0; i < WORDS; i++) {
        wrong += away[BLANK * WORDS + i] == 0 ? 0 : 1;
      }
      return wrong + (changed[BLANK] ? 1 : 0);
    }

    private int countDifferent(int f, int sheet) {
      int different = 0;
      for (int i = 0; i < WORDS; i++) {
        different += memory[f * WORDS + i] == away[sheet * WORDS + i] ? 0 : 1;
      }
      return different;
    }

    private int countWrongFrames() {
      int wrong = hand < 0 || hand >= frames ? 1 : 0;
      wrong += opened < 0 || opened > frames ? 1 : 0;
      for (int f = 0; f < MOST_HOST_FRAMES; f++) {
        int sheet = owner[f];
        boolean right = sheet == NONE || f < frames && isSheet(sheet) && where[sheet] == f;
        wrong += right ? 0 : 1;
      }
      return wrong;
    }

    /** A sheet that were free twice would be two guests' own. */
    private int countWrongFree() {
      int wrong = 0;
      Arrays.fill(seen, 0);
      for (int i = 0; i < freeCount && i < SHEETS; i++) {
        if (isSheet(free[i])) {
          seen[free[i]]++;
        } else {
          wrong++;
        }
      }
      for (int s = 0; s < SHEETS; s++) {
        wrong += seen[s] == (uses[s] == 0 ? 1 : 0) ? 0 : 1;
      }
      return wrong;
    }
  }

  /** Does the guests' steps; what it notes of a step is of no worth behind it. */
  private static final class Processor {
    private static final int FETCH = 11;
    private static final int READ = 12;
    private static final int WRITE = 13;

    private static final int CACHE_W = 1;
    private static final int CACHE_U = 2;
    private static final int CACHE_D = 4;

    private static final int TRAP_NO_OP = 2;
    private static final int TRAP_NOT_ALLOWED = 3;
    private static final int TRAP_NO_MEMORY = 5;
    private static final int TRAP_CALL = 8;
    private static final int TRAP_TIMER = 16;
    private static final int TRAP_ARRIVAL = 17;

    private static final int OP_LAST_OF_SUMS = 10;
    private static final int OP_READ = 11;
    private static final int OP_WRITE = 12;
    private static final int OP_EXCHANGE = 13;
    private static final int OP_LAST_OF_JUMPS = 18;
    private static final int OP_CALL = 19;
    private static final int OP_TIME = 20;
    private static final int OP_LAST = 29;

    private final Host host;
    private int trap;
    private int bad;
    private int next;
    private int count;

    Processor(Host host) {
      this.host = host;
    }

    void step(Guest g) {
      trap = lineTrap(g);
      bad = 0;
      next = g.pc + 1;
      count = g.controls[COUNT] + 1;
      int at = trap == 0 ? locate(g, g.pc, FETCH) : NONE;
      if (trap == 0) {
        int word = host.read(g, at);
        int op = word >>> 26;
        if (op <= OP_LAST_OF_SUMS) {
          setD(g, word, sum(g, word));
        } else if (op <= OP_EXCHANGE) {
          useMemory(g, word);
        } else if (op <= OP_LAST_OF_JUMPS) {
          jump(g, word);
        } else if (op <= OP_TIME) {
          callOrTime(g, word);
        } else if (op > OP_LAST) {
          refuse(TRAP_NO_OP, word);
        } else if (g.mode == 0) {
          refuse(TRAP_NOT_ALLOWED, word);
        } else {
          supervise(g, word);
        }
      }
      if (trap == 0) {
        g.pc = next;
        g.controls[COUNT] = count;
      } else {
        g.enterTrap(trap, bad);
      }
    }

    private static int valueA(Guest g, int word) {
      return g.registers[word >>> 20 & 7];
    }

    private static int valueB(Guest g, int word) {
      return g.registers[word >>> 17 & 7];
    }

    private static int number(int word) {
      return word << 15 >> 15;
    }

    private static void setD(Guest g, int word, int v) {
      g.registers[word >>> 23 & 7] = v;
    }

    private int refuse(int cause, int why) {
      trap = cause;
      bad = why;
      return NONE;
    }

    private static int lineTrap(Guest g) {
      int status = g.controls[STATUS];
      if ((status & ON) == 0) {
        return 0;
      }
      if ((status & FOR_TIMER) != 0 && g.timerIsUp()) {
        return TRAP_TIMER;
      }
      return (status & FOR_ARRIVALS) != 0 && g.waiting > 0 ? TRAP_ARRIVAL : 0;
    }

    /** Where in the guest's memory an address is; KIND is the page trap that it may end in. */
    private int locate(Guest g, int address, int kind) {
      int root = g.controls[ROOT];
      if (root >= 0) {
        return g.hasWord(address) ? address : refuse(TRAP_NO_MEMORY, address);
      }
      if (address < 0 || address >= PAGES * WORDS) {
        return refuse(kind, address);
      }
      int page = address >> 6;
      int tableAt = WORDS * (root & 63) + page;
      int entry = g.cache[page];
      if (entry == NONE) {
        if (!g.hasWord(tableAt)) {
          return refuse(TRAP_NO_MEMORY, address);
        }
        int word = host.read(g, tableAt);
        int frame = word >> 8 & 63;
        if ((word & 1) == 0 || frame >= g.frames) {
          return refuse(kind, address);
        }
        host.write(g, tableAt, word | 8);
        entry = frame << 3 | word >> 1 & (CACHE_W | CACHE_U) | word >> 2 & CACHE_D;
        g.cache[page] = entry;
      }
      if (g.mode == 0 && (entry & CACHE_U) == 0 || kind == WRITE && (entry & CACHE_W) == 0) {
        return refuse(kind, address);
      }
      if (kind == WRITE && (entry & CACHE_D) == 0) {
        // The guest may have changed the table's word since the cache was filled from it.
        host.write(g, tableAt, host.read(g, tableAt) | 16);
        g.cache[page] = entry | CACHE_D;
      }
      return (entry >> 3) * WORDS + (address & 63);
    }

    private static int sum(Guest g, int word) {
      int a = valueA(g, word);
      int b = valueB(g, word);
      switch (word >>> 26) {
        case 0:
          return a + b;
        case 1:
          return a - b;
        case 2:
          return a & b;
        case 3:
          return a | b;
        case 4:
          return a ^ b;
        case 5:
          return a * b;
        case 6:
          return a < b ? 1 : 0;
        case 7:
          return a << (b & 31);
        case 8:
          return a >>> (b & 31);
        case 9:
          return a + number(word);
        default:
          return number(word) << 15;
      }
    }

    private void useMemory(Guest g, int word) {
      int op = word >>> 26;
      int at = locate(g, valueA(g, word) + number(word), op == OP_READ ? READ : WRITE);
      if (trap != 0) {
        return;
      }
      int b = valueB(g, word);
      if (op != OP_WRITE) {
        setD(g, word, host.read(g, at));
      }
      if (op != OP_READ) {
        host.write(g, at, b);
      }
    }

    private void jump(Guest g, int word) {
      int a = valueA(g, word);
      int b = valueB(g, word);
      int near = g.pc + number(word);
      switch (word >>> 26) {
        case 14:
          next = a == b ? near : next;
          break;
        case 15:
          next = a != b ? near : next;
          break;
        case 16:
          next = a < b ? near : next;
          break;
        case 17:
          setD(g, word, next);
          next = near;
          break;
        default:
          setD(g, word, next);
          next = a + number(word);
      }
    }

    private void callOrTime(Guest g, int word) {
      if (word >>> 26 == OP_CALL) {
        refuse(TRAP_CALL + g.mode, number(word));
      } else if (g.mode == 0 && (g.controls[STATUS] & FOR_TIME) == 0) {
        refuse(TRAP_NOT_ALLOWED, word);
      } else {
        setD(g, word, g.controls[COUNT]);
      }
    }

    private void supervise(Guest g, int word) {
      int a = valueA(g, word);
      switch (word >>> 26) {
        case 21:
          readControl(g, word);
          break;
        case 22:
          writeControl(g, word);
          break;
        case 23:
          g.leaveTrap();
          next = g.controls[EPC];
          break;
        case 24:
          g.emptyCache();
          break;
        case 25:
          g.cache[a & (PAGES - 1)] = NONE;
          break;
        case 26:
          waitForLine(g);
          break;
        case 27:
          g.phase = HALTED;
          break;
        case 28:
          setD(g, word, takeIn(g, number(word)));
          break;
        default:
          giveOut(g, a, number(word));
      }
    }

    private void readControl(Guest g, int word) {
      int n = number(word);
      if (n < 0 || n >= CONTROLS) {
        refuse(TRAP_NO_OP, word);
      } else {
        setD(g, word, g.controls[n]);
      }
    }

    private void writeControl(Guest g, int word) {
      int n = number(word);
      int a = valueA(g, word);
      if (n < 0 || n >= SIZE) {
        refuse(TRAP_NO_OP, word);
      } else if (n == COUNT) {
        count = a + 1;
      } else {
        g.controls[n] = n == STATUS ? a & STATUS_BITS : a;
        if (n == ROOT) {
          g.emptyCache();
        }
      }
    }

    private void waitForLine(Guest g) {
      if (g.timerIsUp() || g.waiting > 0) {
        return;
      }
      if (g.controls[TIMER] != 0) {
        count = g.controls[TIMER];
      } else {
        g.phase = WAITING;
      }
    }

    private static int takeIn(Guest g, int n) {
      switch (n) {
        case 0:
          return g.takeOldest();
        case 1:
          return g.waiting;
        case 2:
          return g.putCount;
        case 3:
          return g.place;
        default:
          return 0;
      }
    }

    private void giveOut(Guest g, int a, int n) {
      if (n == 0) {
        g.putOut(a);
      } else if (n == 1) {
        g.place = a;
      } else if (n == 2 && g.place >= 0 && g.place < g.frames) {
        if ((a & 1) != 0) {
          host.saveFrame(g, g.place, a >> 1);
        } else {
          host.loadFrame(g, g.place, a >> 1);
        }
      }
    }
  }
}
