/** The edges of 'Terms': its first lines, and points 1 and 2. */
public final class TermsEdgesTest extends Bench {
  private static final String NUMBERS = "All numbers are of 32 bits and wrap.";
  private static final String TIMER_LINE =
      "The TIMER'S LINE is up if TIMER is not 0 and COUNT less TIMER is not below 0.";

  public static void main(String[] args) {
    new TermsEdgesTest().testSentences();
  }

  // The first lines.

  @Sentence(in = "terms", says = NUMBERS)
  void sumsWrap() {
    value(Code.three(0, 3, 1, 2), MAX, 1, MIN);
    value(Code.three(0, 3, 1, 2), MIN, -1, MAX);
    value(Code.three(0, 3, 1, 2), MIN, MIN, 0);
    value(Code.three(1, 3, 1, 2), MIN, 1, MAX);
    value(Code.three(1, 3, 1, 2), MAX, -1, MIN);
    value(Code.three(1, 3, 1, 2), 0, MIN, MIN);
    value(Code.three(5, 3, 1, 2), MAX, MAX, 1);
    value(Code.three(5, 3, 1, 2), MIN, -1, MIN);
    value(Code.three(5, 3, 1, 2), 65536, 65536, 0);
    value(Code.three(5, 3, 1, 2), 65537, 65537, 131073);
    value(Code.add(3, 1, 1), MAX, 0, MIN);
    value(Code.add(3, 1, -1), MIN, 0, MAX);
  }

  @Sentence(in = "terms", says = NUMBERS)
  void countWraps() {
    for (int count : new int[] {MAX, -1, MIN}) {
      int g = x.guest(1);
      ready(g, new Program().count(count), Code.loop());
      control(g, Code.COUNT, count);
      does(g, 1);
      control(g, Code.COUNT, count + 1);
    }
  }

  @Sentence(in = "terms", says = NUMBERS)
  void pcWrapsBelowZero() {
    int g = started(1, Code.go(-1));
    does(g, 1);
    told(g, 8, -1);
    traps(g, 5, -1);
  }

  @Sentence(in = "terms", says = NUMBERS)
  void pcWrapsInAJump() {
    int g = x.guest(1);
    ready(g, new Program().load(1, MAX), Code.word(18, 2, 1, 0, 1));
    does(g, 1);
    told(g, 8, MIN);
    traps(g, 5, MIN);
  }

  @Sentence(in = "terms", says = NUMBERS)
  void addressesWrap() {
    value(Code.read(3, 1, 1), -1, 0, Code.high(1, -1));
    value(Code.read(3, 1, 65535), -65535, 0, Code.high(1, -65535 >> 15));
    anew();
    int g = x.guest(1);
    int at = ready(g, new Program().load(1, -5), Code.write(1, 68, 1), Code.write(1, 69, 1));
    does(g, 1);
    due("peek(63)", x.peek(g, 63), -5);
    told(g, 8, at + 1);
    traps(g, 5, 64);
    anew();
    g = x.guest(1);
    ready(g, new Program().load(1, 3), Code.read(2, 1, -4));
    traps(g, 5, -1);
  }

  @Sentence(in = "terms", says = "Addresses are of words, without sign")
  void addressesHaveNoSign() {
    for (int address : new int[] {-1, -64, MIN, MIN + 3, MAX}) {
      anew();
      int g = x.guest(64);
      ready(g, new Program().load(1, address), Code.read(3, 1, 0));
      traps(g, 5, address);
      anew();
      g = x.guest(64);
      ready(g, new Program().load(1, address), Code.write(1, 0, 1));
      traps(g, 5, address);
      anew();
      g = x.guest(64);
      due("start", x.start(g, address), 0);
      traps(g, 5, address);
      x.stop(g);
      due("poke", x.poke(g, address, 1), -2);
      due("peek", x.peek(g, address), 0);
    }
  }

  @Sentence(in = "terms", says = "a PAGE and a FRAME have 64 words")
  void aFrameHas64Words() {
    int g = x.guest(2);
    code(g, 64, Code.set(1, 1), Code.out(1, 2));
    x.poke(g, 0, 500);
    x.poke(g, 63, 563);
    due("start", x.start(g, 64), 0);
    does(g, 2);
    due("disk(0)", x.disk(g, 0), 500);
    due("disk(63)", x.disk(g, 63), 563);
    due("disk(64)", x.disk(g, 64), 0);
  }

  @Sentence(in = "terms", says = "a PAGE and a FRAME have 64 words")
  void aPageHas64Words() {
    int[] addresses = {575, 576, 639, 640};
    int[] pages = {8, 9, 9, 10};
    for (int i = 0; i < addresses.length; i++) {
      anew();
      int g = x.guest(9);
      code(g, 256, PRESENT);
      code(g, 256 + 8, PRESENT, PRESENT, PRESENT);
      ready(g, new Program().control(Code.ROOT, PAGING | 4), Code.read(2, 0, addresses[i]));
      goesOn(g);
      for (int page = 8; page <= 10; page++) {
        due("cached(" + page + ")", x.cached(g, page), page == pages[i] ? 0 : -1);
      }
    }
  }

  // Point 1.

  @Sentence(in = "terms 1", says = "A GUEST has F frames of memory (1 .. 64)")
  void oneTo64Frames() {
    for (int f : new int[] {1, 2, 63, 64}) {
      anew();
      int g = x.guest(f);
      due("the last word", x.poke(g, 64 * f - 1, f), 0);
      due("it is there", x.peek(g, 64 * f - 1), f);
      due("the word behind it", x.poke(g, 64 * f, f), -2);
      control(g, 9, f);
    }
  }

  @Sentence(in = "terms 1", says = "a DISK of 16 sectors of 64 words, all 0 at first")
  void diskIsZeroAtFirst() {
    for (int part = 0; part < 4; part++) {
      anew();
      int g = x.guest(1);
      for (int i = 256 * part; i < 256 * (part + 1); i++) {
        due("disk(" + i + ")", x.disk(g, i), 0);
      }
    }
  }

  @Sentence(in = "terms 1", says = "a DISK of 16 sectors of 64 words, all 0 at first")
  void memoryIsZeroAtFirst() {
    for (int part = 0; part < 16; part++) {
      anew();
      x.install(4, 10);
      int g = x.guest(64);
      for (int i = 256 * part; i < 256 * (part + 1); i++) {
        due("peek(" + i + ")", x.peek(g, i), 0);
      }
    }
  }

  @Sentence(in = "terms 1", says = "a DISK of 16 sectors of 64 words, all 0 at first")
  void allIsZeroAgainInANewGuestWithAnOldNumber() {
    x.install(4, 10);
    for (int f = 0; f < 6; f++) {
      due("guest", x.guest(6), 0);
      for (int i = 0; i < 6; i++) {
        due("peek", x.peek(0, 64 * i + f), 0);
        due("disk", x.disk(0, 64 * i + f), 0);
        for (int k = 0; k < 6; k++) {
          x.poke(0, 64 * i + k, -1);
        }
        x.pokeDisk(0, 64 * i + f + 1, -1);
      }
      due("drop", x.drop(0), 0);
    }
  }

  @Sentence(in = "terms 1", says = "registers r0 .. r7, PC, MODE (0 user, 1 supervisor)")
  void eightRegisters() {
    int g = x.guest(1);
    Program p = new Program();
    for (int d = 7; d >= 0; d--) {
      p.load(d, 1000 + d);
    }
    ready(g, p, Code.three(0, 0, 7, 0));
    for (int d = 0; d < 8; d++) {
      told(g, d, 1000 + d);
    }
    goesOn(g);
    told(g, 0, 2007);
    told(g, 1, 1001);
  }

  @Sentence(in = "terms 1", says = "registers r0 .. r7, PC, MODE (0 user, 1 supervisor)")
  void modes() {
    int g = x.guest(1);
    told(g, 9, 0);
    x.poke(g, 7, Code.loop());
    code(g, 0, new Program().user(0).words());
    x.start(g, 0);
    told(g, 9, 1);
    does(g, 7);
    told(g, 9, 0);
  }

  @Sentence(in = "terms 1", says = "8 COUNT, 9 F (never written)")
  void sizeIsNeverWritten() {
    int g = x.guest(3);
    int at = ready(g, new Program().load(1, 5), Code.setControl(9, 1));
    traps(g, 2, Code.setControl(9, 1));
    control(g, 9, 3);
    x.stop(g);
    control(g, 9, 3);
    x.start(g, at);
    control(g, 9, 3);
    due("its memory", x.peek(g, 191), 0);
  }

  @Sentence(in = "terms 1",
      says = "a CACHE of translations, for each page 0 .. 255 none, or a frame with bits W, U, D")
  void cacheHasPages0To255() {
    int g = x.guest(9);
    code(g, 256, PRESENT | U);
    x.poke(g, 511, PRESENT | W | 8 << 8);
    ready(g, new Program().control(Code.ROOT, PAGING | 4), Code.read(2, 0, 16383));
    for (int page = 0; page < 256; page++) {
      due("cached(" + page + ")", x.cached(g, page), -1);
    }
    goesOn(g);
    due("the first", x.cached(g, 0), 2);
    due("the second", x.cached(g, 1), -1);
    due("the last but one", x.cached(g, 254), -1);
    due("the last", x.cached(g, 255), 8 * 8 + 1);
    due("behind it", x.cached(g, 256), -1);
  }

  @Sentence(in = "terms 1", says = "a row of words that came IN (at most 64 wait)")
  void atMost64Wait() {
    int g = started(1, Code.in(1, 0), Code.out(1, 0), Code.go(-2));
    for (int i = 0; i < 64; i++) {
      due("input " + i, x.input(g, 100 + i), 0);
      told(g, 20, i + 1);
    }
    due("the 65th", x.input(g, 999), -12);
    told(g, 20, 64);
    does(g, 1);
    told(g, 20, 63);
    due("a place is free", x.input(g, 164), 0);
    due("full again", x.input(g, 998), -12);
    does(g, 3 * 65);
    for (int i = 0; i <= 64; i++) {
      due("out(" + i + ")", x.out(g, i), 100 + i);
    }
    due("none waits any more", x.out(g, 65), 0);
  }

  @Sentence(in = "terms 1", says = "one of words put OUT (all are counted, the first 1000 kept)")
  void theFirst1000AreKept() {
    int g = started(1, Code.add(1, 1, 1), Code.out(1, 0), Code.go(-2));
    does(g, 2000);
    does(g, 997);
    told(g, 21, 999);
    due("out(998)", x.out(g, 998), 999);
    due("out(999)", x.out(g, 999), 0);
    does(g, 2);
    told(g, 21, 1000);
    due("out(999)", x.out(g, 999), 1000);
    does(g, 3);
    told(g, 21, 1001);
    due("out(1000)", x.out(g, 1000), 0);
    due("out(0)", x.out(g, 0), 1);
    due("out(999)", x.out(g, 999), 1000);
    does(g, 2000);
    told(g, 21, 1001 + 666);
  }

  @Sentence(in = "terms 1",
      says = "It is STOPPED (0), RUNNING (1), WAITING (2) or HALTED (3).")
  void fourStates() {
    for (int state = STOPPED; state <= HALTED; state++) {
      state(guestIn(state), state);
    }
  }

  @Sentence(in = "terms 1",
      says = "Of a new one all are 0 (MODE too) but F, and the cache is empty.")
  void aNewGuestIsZero() {
    int g = x.guest(64);
    state(g, STOPPED);
    for (int i = 0; i < 24; i++) {
      told(g, i, i == 19 ? 64 : 0);
    }
    for (int page = 0; page < 256; page++) {
      due("cached(" + page + ")", x.cached(g, page), -1);
    }
    due("out(0)", x.out(g, 0), 0);
  }

  @Sentence(in = "terms 1",
      says = "Of a new one all are 0 (MODE too) but F, and the cache is empty.")
  void aNewGuestIsZeroWhereAnOtherWas() {
    int g = x.guest(9);
    Program p = new Program();
    for (int n = 0; n <= 4; n++) {
      p.control(n, -1);
    }
    p.control(Code.STATUS, 0).control(Code.TIMER, -1).control(Code.SCRATCH, -1);
    for (int d = 0; d < 7; d++) {
      p.then(Code.set(d, 50 + d));
    }
    p.then(Code.out(1, 0), Code.out(1, 1)).control(Code.ROOT, PAGING | 4);
    code(g, 256, PRESENT);
    ready(g, p, Code.call(1));
    x.input(g, 7);
    traps(g, 9, 1);
    due("cached(0)", x.cached(g, 0), 0);
    due("drop", x.drop(g), 0);
    due("guest", x.guest(8), g);
    state(g, STOPPED);
    for (int i = 0; i < 24; i++) {
      told(g, i, i == 19 ? 8 : 0);
    }
    due("cached(0)", x.cached(g, 0), -1);
    due("out(0)", x.out(g, 0), 0);
    due("start", x.start(g, 0), 0);
    x.input(g, 8);
    told(g, 20, 1);
  }

  @Sentence(in = "terms 1", says = "10 for TIME; other bits are always 0.")
  void otherBitsOfStatusAreZero() {
    for (int bit = 0; bit < 32; bit++) {
      anew();
      int g = x.guest(1);
      ready(g, new Program().control(Code.STATUS, 1 << bit));
      boolean has = bit <= 2 || bit >= 8 && bit <= 10;
      control(g, Code.STATUS, has ? 1 << bit : 0);
    }
    anew();
    int g = x.guest(1);
    ready(g, new Program().control(Code.STATUS, -1));
    control(g, Code.STATUS, 0x707);
  }

  @Sentence(in = "terms 1", says = TIMER_LINE)
  void timerThatIsZero() {
    timerIsUp(0, 100, false);
    timerIsUp(0, MAX, false);
    timerIsUp(0, MIN, false);
    timerIsUp(0, 0, false);
  }

  @Sentence(in = "terms 1", says = TIMER_LINE)
  void timerAtItsCount() {
    timerIsUp(500, 499, false);
    timerIsUp(500, 500, true);
    timerIsUp(500, 501, true);
    timerIsUp(MIN, MIN, true);
    timerIsUp(-1, -1, true);
    timerIsUp(-1, -2, false);
  }

  @Sentence(in = "terms 1", says = TIMER_LINE)
  void timerLessCountWraps() {
    timerIsUp(MAX, MIN, true);
    timerIsUp(MIN, MAX, false);
    timerIsUp(1, MIN, true);
    timerIsUp(1, MIN + 1, false);
    timerIsUp(-1, MAX - 1, true);
    timerIsUp(-1, MAX, false);
    timerIsUp(MIN, 0, false);
    timerIsUp(MIN, -1, true);
  }

  private void timerIsUp(int timer, int count, boolean up) {
    anew();
    int g = x.guest(1);
    Program p = new Program().control(Code.TIMER, timer).control(Code.VECTOR, 40);
    ready(g, p.countAndStatus(count, ON | FOR_TIMER));
    control(g, Code.COUNT, count);
    if (up) {
      traps(g, 16, 0);
    } else {
      goesOn(g);
    }
  }

  @Sentence(in = "terms 1", says = "The LINE OF WHAT COMES IN is up if a word waits.")
  void lineOfWhatComesIn() {
    int[] behind = {0, Code.in(1, 0), Code.in(1, 0), 0};
    int g = x.guest(1);
    ready(g, new Program().control(Code.STATUS, ON | FOR_ARRIVALS), behind);
    goesOn(g);
    x.input(g, 0);
    traps(g, 17, 0);
    anew();
    g = x.guest(1);
    x.input(g, 1);
    x.input(g, 2);
    ready(g, new Program().then(Code.in(1, 0)).control(Code.STATUS, ON | FOR_ARRIVALS), behind);
    traps(g, 17, 0);
    anew();
    g = x.guest(1);
    x.input(g, 1);
    ready(g, new Program().then(Code.in(1, 0)).control(Code.STATUS, ON | FOR_ARRIVALS), behind);
    goesOn(g);
  }

  // Point 2.

  /** The cause that the step behind ends in; 0 for no trap. */
  private void lines(int status, boolean timerUp, boolean waits, int cause) {
    anew();
    int g = x.guest(1);
    if (waits) {
      x.input(g, 9);
    }
    Program p = new Program().control(Code.TIMER, timerUp ? 1 : 1000).control(Code.BAD, 77);
    ready(g, p.control(Code.STATUS, status));
    if (cause != 0) {
      traps(g, cause, 0);
    } else {
      goesOn(g);
    }
  }

  @Sentence(in = "terms 2",
      says = "(1) ON is 1, STATUS bit 8 is 1 and the timer's line is up: TRAP 16.")
  void timersTrap() {
    lines(ON | FOR_TIMER, true, false, 16);
    lines(FOR_TIMER, true, false, 0);
    lines(FOR_TIMER | ON_BEFORE | MODE_BEFORE, true, false, 0);
    lines(ON, true, false, 0);
    lines(ON | FOR_ARRIVALS | FOR_TIME, true, false, 0);
    lines(ON | FOR_TIMER, false, false, 0);
    lines(ON | FOR_TIMER, false, true, 0);
  }

  @Sentence(in = "terms 2",
      says = "(2) ON is 1, bit 9 is 1, and the other line is up: TRAP 17.")
  void trapOfWhatComesIn() {
    lines(ON | FOR_ARRIVALS, false, true, 17);
    lines(ON | FOR_ARRIVALS | FOR_TIMER, false, true, 17);
    lines(FOR_ARRIVALS, false, true, 0);
    lines(FOR_ARRIVALS | ON_BEFORE | MODE_BEFORE, false, true, 0);
    lines(ON, false, true, 0);
    lines(ON | FOR_TIMER | FOR_TIME, false, true, 0);
    lines(ON | FOR_ARRIVALS, false, false, 0);
    lines(ON | FOR_ARRIVALS, true, false, 0);
  }

  @Sentence(in = "terms 2",
      says = "A STEP of a guest that is RUNNING, the first that holds:")
  void theTimersLineIsFirst() {
    lines(ON | FOR_TIMER | FOR_ARRIVALS, true, true, 16);
    lines(ON | FOR_ARRIVALS, true, true, 17);
  }

  @Sentence(in = "terms 2",
      says = "A STEP of a guest that is RUNNING, the first that holds:")
  void linesComeBeforeTheFetch() {
    int outside = 5000;
    for (int bit : new int[] {FOR_TIMER, FOR_ARRIVALS}) {
      anew();
      int g = x.guest(1);
      x.input(g, 1);
      Program p = new Program().control(Code.TIMER, 1).control(Code.EPC, outside)
          .control(Code.STATUS, bit | ON_BEFORE);
      ready(g, p, Code.back());
      does(g, 1);
      told(g, 8, outside);
      traps(g, bit == FOR_TIMER ? 16 : 17, 0);
    }
  }

  @Sentence(in = "terms 2",
      says = "Ends that in a TRAP, nothing of the instruction is done")
  void nothingIsDoneOfWhatMode0MayNot() {
    int[] words = {
      Code.time(1), Code.getControl(1, 4), Code.setControl(Code.SCRATCH, 2),
      Code.setControl(Code.COUNT, 2), Code.back(), Code.emptyCache(), Code.forget(0),
      Code.pause(), Code.halt(), Code.in(1, 0), Code.out(2, 0), Code.out(2, 1), Code.out(3, 2),
      Code.out(0, 2), Code.call(5), 30 << 26 | 1 << 23
    };
    for (int word : words) {
      anew();
      int g = x.guest(9);
      code(g, 256, PRESENT | U);
      x.pokeDisk(g, 0, 44);
      x.input(g, 9);
      Program p = new Program().control(Code.VECTOR, 50).load(1, 11).load(2, 12).load(3, 3)
          .userWithPages(PAGING | 4, 0);
      ready(g, p, word);
      int[] before = allTold(g);
      traps(g, word == Code.call(5) ? 8 : word >>> 26 == 30 ? 2 : 3,
          word == Code.call(5) ? 5 : word);
      before[8] = 50;
      before[9] = 1;
      for (int i = 10; i <= 13; i++) {
        before[i] = x.told(g, i);
      }
      before[23] = 1;
      same("what is told", allTold(g), before);
      due("disk(0)", x.disk(g, 0), 44);
      due("disk(64)", x.disk(g, 64), 0);
      due("peek(0)", x.peek(g, 0), p.words()[0]);
      due("cached(0)", x.cached(g, 0), 2);
    }
  }

  @Sentence(in = "terms 2",
      says = "Ends that in a TRAP, nothing of the instruction is done")
  void nothingIsDoneOfAReadOrWriteThatIsRefused() {
    int[] words = {Code.read(3, 0, 64), Code.exchange(3, 0, 64, 2), Code.write(0, 64, 2)};
    for (int word : words) {
      anew();
      int g = x.guest(1);
      int other = x.guest(2);
      ready(g, new Program().load(3, 33).load(2, 22), word);
      traps(g, 5, 64);
      told(g, 3, 33);
      told(g, 2, 22);
      due("peek(0)", x.peek(g, 0), Code.high(3, 0));
      due("the other's word", x.peek(other, 64), 0);
    }
  }

  @Sentence(in = "terms 2",
      says = "Ends that in a TRAP, nothing of the instruction is done")
  void nothingIsDoneOfAControlThatIsNone() {
    int[] words = {Code.getControl(3, 10), Code.getControl(3, -1), Code.setControl(9, 3),
        Code.setControl(-1, 3)};
    for (int word : words) {
      anew();
      int g = x.guest(1);
      ready(g, new Program().load(3, 33), word);
      traps(g, 2, word);
      told(g, 3, 33);
      control(g, Code.COUNT, 2);
      for (int n = 4; n < 8; n++) {
        control(g, n, 0);
      }
      control(g, 9, 1);
    }
  }

  @Sentence(in = "terms 2", says = "(but what READING and WRITING did to cache and tables)")
  void whatTheFetchDidStays() {
    int g = x.guest(9);
    code(g, 256, PRESENT | W | U);
    ready(g, new Program().control(Code.ROOT, PAGING | 4), Code.call(1));
    due("cached(0)", x.cached(g, 0), -1);
    traps(g, 9, 1);
    due("cached(0)", x.cached(g, 0), 3);
    due("the table's word", x.peek(g, 256), PRESENT | W | U | USED);
  }

  @Sentence(in = "terms 2", says = "(but what READING and WRITING did to cache and tables)")
  void whatARefusedWriteDidStays() {
    for (int word : new int[] {Code.write(0, 577, 2), Code.exchange(3, 0, 577, 2)}) {
      anew();
      int g = x.guest(9);
      code(g, 256, PRESENT);
      x.poke(g, 265, PRESENT | U | 5 << 8);
      ready(g, new Program().load(2, 22).control(Code.ROOT, PAGING | 4), word);
      traps(g, 13, 577);
      due("cached(9)", x.cached(g, 9), 5 * 8 + 2);
      due("the table's word", x.peek(g, 265), PRESENT | U | USED | 5 << 8);
      due("the word", x.peek(g, 321), 0);
      told(g, 3, 0);
    }
  }

  @Sentence(in = "terms 2",
      says = "Else COUNT is 1 more, and PC what is told, else 1 more.")
  void countAndPcGoOn() {
    int[] words = {
      Code.three(0, 1, 2, 3), Code.three(1, 1, 2, 3), Code.three(2, 1, 2, 3),
      Code.three(3, 1, 2, 3), Code.three(4, 1, 2, 3), Code.three(5, 1, 2, 3),
      Code.three(6, 1, 2, 3), Code.three(7, 1, 2, 3), Code.three(8, 1, 2, 3),
      Code.add(1, 2, 9), Code.high(1, 9), Code.read(1, 0, 0), Code.write(0, 60, 1),
      Code.exchange(1, 0, 60, 2), Code.word(14, 0, 1, 2, 9), Code.word(15, 0, 1, 1, 9),
      Code.word(16, 0, 1, 1, 9), Code.time(1), Code.getControl(1, 2), Code.setControl(7, 1),
      Code.emptyCache(), Code.forget(1), Code.pause(), Code.halt(), Code.in(1, 0),
      Code.in(1, 9), Code.out(1, 0), Code.out(1, 1), Code.out(1, 2), Code.out(1, 9)
    };
    for (int word : words) {
      anew();
      int g = x.guest(1);
      ready(g, new Program().load(1, 5).load(2, 6), word);
      goesOn(g);
    }
  }

  @Sentence(in = "terms 2",
      says = "CAUSE is c, EPC is PC, BAD the number (0 if none is told)")
  void badIsZeroIfNoneIsTold() {
    int g = x.guest(1);
    x.input(g, 1);
    ready(g, new Program().control(Code.BAD, 77).control(Code.STATUS, ON | FOR_ARRIVALS));
    control(g, Code.BAD, 77);
    traps(g, 17, 0);
    anew();
    g = x.guest(1);
    Program p = new Program().control(Code.BAD, 77).control(Code.TIMER, 2);
    ready(g, p.control(Code.STATUS, ON | FOR_TIMER));
    traps(g, 16, 0);
  }

  @Sentence(in = "terms 2",
      says = "CAUSE is c, EPC is PC, BAD the number (0 if none is told)")
  void badIsZeroBehindATrapThatToldANumber() {
    int g = x.guest(1);
    x.input(g, 1);
    int at = ready(g, new Program(), Code.call(33), Code.set(1, FOR_ARRIVALS | ON),
        Code.setControl(Code.STATUS, 1));
    int other = started(1, Code.read(1, 0, 99));
    traps(g, 9, 33);
    traps(other, 5, 99);
    x.stop(g);
    due("start", x.start(g, at + 1), 0);
    does(g, 2);
    traps(g, 17, 0);
  }

  @Sentence(in = "terms 2",
      says = "ON BEFORE is ON, MODE BEFORE is MODE, ON 0, MODE 1, PC VECTOR.")
  void statusBehindATrapInMode1() {
    int[] before = {
      0, ON, ON_BEFORE, MODE_BEFORE, ON | ON_BEFORE | MODE_BEFORE, ON_BEFORE | MODE_BEFORE,
      FOR_TIMER | FOR_ARRIVALS | FOR_TIME, ON | FOR_TIMER | FOR_ARRIVALS | FOR_TIME
    };
    for (int status : before) {
      anew();
      int g = x.guest(1);
      Program p = new Program().control(Code.VECTOR, 44).control(Code.STATUS, status);
      ready(g, p, Code.call(-1));
      traps(g, 9, -1);
      int kept = status & (FOR_TIMER | FOR_ARRIVALS | FOR_TIME);
      control(g, Code.STATUS, kept | MODE_BEFORE | ((status & ON) != 0 ? ON_BEFORE : 0));
      told(g, 8, 44);
    }
  }

  @Sentence(in = "terms 2",
      says = "ON BEFORE is ON, MODE BEFORE is MODE, ON 0, MODE 1, PC VECTOR.")
  void statusBehindATrapInMode0() {
    for (int on : new int[] {0, ON_BEFORE}) {
      anew();
      int g = x.guest(1);
      ready(g, new Program().control(Code.VECTOR, 44).user(on | FOR_TIME), Code.call(-1));
      control(g, Code.STATUS, (on != 0 ? ON : 0) | ON_BEFORE | FOR_TIME);
      traps(g, 8, -1);
      control(g, Code.STATUS, on | FOR_TIME);
      told(g, 9, 1);
    }
  }

  @Sentence(in = "terms 2",
      says = "ON BEFORE is ON, MODE BEFORE is MODE, ON 0, MODE 1, PC VECTOR.")
  void aVectorOutsideMemoryTrapsAgain() {
    int g = x.guest(1);
    int at = ready(g, new Program().control(Code.VECTOR, -7), Code.call(3));
    traps(g, 9, 3);
    told(g, 8, -7);
    does(g, 3);
    trapped(g, 5, -7, -7);
    told(g, 8, -7);
    told(g, 23, 4);
    control(g, Code.COUNT, at);
    state(g, RUNNING);
  }

  @Sentence(in = "terms 2", says = "COUNT stays.")
  void countStaysInATrap() {
    int g = x.guest(1);
    ready(g, new Program().control(Code.VECTOR, 60).count(MAX), Code.call(3));
    traps(g, 9, 3);
    control(g, Code.COUNT, MAX);
  }
}
