/** The edges of 'Terms', point 4: the instructions, and the modes in which they are refused. */
public final class InstructionEdgesTest extends Bench {
  private static final int MOST_N = 65535;
  private static final int LEAST_N = -65536;
  private static final String WRITE_CONTROL =
      "22 control n = a (STATUS its bits 0, 1, 2, 8, 9, 10 alone; ROOT: the cache is emptied; COUNT"
      + " is then 1 more, as always).";
  private static final String BACK =
      "23 back: ON is ON BEFORE, MODE is MODE BEFORE, ON BEFORE 1, MODE BEFORE 0, on at EPC.";
  private static final String WAIT_NOTHING =
      "26 WAIT: is a line up (whatever STATUS says; by COUNT as it is before), nothing";
  private static final String DISK =
      "2, if PLACE is below F (without sign): with a odd, sector a >> 1 & 15 becomes what the frame"
      + " PLACE is, with a even the frame what the sector is; else nothing.";
  private static final String OTHERS =
      "Other OPS, 21 with n not 0 .. 9, 22 with n not 0 .. 8: TRAP 2 with the word (in MODE 0 21"
      + " and 22: TRAP 3, before that).";
  private static final String EXCHANGE =
      "13 EXCHANGE: a WRITE at a + n, of b; d is what was there (behind D's bit, if that was told"
      + " there just now).";
  private static final String FOR_MODE_1 =
      "For MODE 1 alone (in MODE 0 TRAP 3 with the word;";

  public static void main(String[] args) {
    new InstructionEdgesTest().testSentences();
  }

  /** A guest of one frame that has these numbers in r1 and r2, before the words. */
  private int withNumbers(int a, int b, int... words) {
    anew();
    int g = x.guest(1);
    ready(g, new Program().load(1, a).load(2, b), words);
    return g;
  }

  private int inMode0(int status, int... words) {
    anew();
    int g = x.guest(1);
    ready(g, new Program().control(Code.VECTOR, 50).load(1, 11).user(status), words);
    told(g, 9, 0);
    return g;
  }

  // What words are made of.

  @Sentence(in = "terms 4",
      says = "OP bits 26 to 31, d 23 to 25, a 20 to 22, b 17 to 19, n bits 0 to 16 with sign.")
  void theFieldsOfAWord() {
    for (int d = 0; d < 8; d++) {
      anew();
      int g = x.guest(1);
      int a = d + 3 & 7;
      int b = d + 5 & 7;
      Program p = new Program();
      for (int r = 0; r < 8; r++) {
        p.load(r, 100 << r);
      }
      ready(g, p, Code.three(1, d, a, b));
      goesOn(g);
      for (int r = 0; r < 8; r++) {
        told(g, r, r == d ? (100 << a) - (100 << b) : 100 << r);
      }
    }
  }

  @Sentence(in = "terms 4",
      says = "OP bits 26 to 31, d 23 to 25, a 20 to 22, b 17 to 19, n bits 0 to 16 with sign.")
  void theSignOfN() {
    value(Code.add(3, 1, MOST_N), 0, 0, 65535);
    value(Code.add(3, 1, LEAST_N), 0, 0, -65536);
    value(Code.add(3, 1, -1), 0, 0, -1);
    value(Code.add(3, 1, 0), 5, 0, 5);
  }

  @Sentence(in = "terms 4",
      says = "OP bits 26 to 31, d 23 to 25, a 20 to 22, b 17 to 19, n bits 0 to 16 with sign.")
  void bitsThatAnInstructionDoesNotUse() {
    value(Code.word(0, 3, 1, 2, -1), 5, 6, 11);
    value(Code.word(9, 3, 1, 7, 4), 5, 6, 9);
    value(Code.word(10, 3, 7, 7, 1), 5, 6, 32768);
    value(Code.word(20, 3, 7, 7, -1), 5, 6, 4);
  }

  @Sentence(in = "terms 4",
      says = "OP bits 26 to 31, d 23 to 25, a 20 to 22, b 17 to 19, n bits 0 to 16 with sign.")
  void registersThatAnInstructionDoesNotSet() {
    int[] ops = {12, 14, 15, 16, 19, 22, 23, 24, 25, 26, 27, 29};
    for (int op : ops) {
      for (int n : new int[] {0, 1}) {
        int g = withNumbers(20, 30, Code.word(op, 3, 1, 2, n));
        x.input(g, 77);
        x.input(g, 78);
        does(g, 1);
        told(g, 1, 20);
        told(g, 2, 30);
        told(g, 3, 0);
        told(g, 20, 2);
      }
    }
  }

  // Sums.

  @Sentence(in = "terms 4", says = "2 and. 3 or. 4 xor.")
  void bitwise() {
    value(Code.three(2, 3, 1, 2), MIN | 12, -6, MIN | 8);
    value(Code.three(3, 3, 1, 2), MIN | 12, 10, MIN | 14);
    value(Code.three(4, 3, 1, 2), MIN | 12, -1, MAX - 12);
  }

  @Sentence(in = "terms 4", says = "6 1 if a is below b (with sign), else 0.")
  void belowWithSign() {
    value(Code.three(6, 3, 1, 2), MIN, MAX, 1);
    value(Code.three(6, 3, 1, 2), MAX, MIN, 0);
    value(Code.three(6, 3, 1, 2), -1, 0, 1);
    value(Code.three(6, 3, 1, 2), 0, -1, 0);
    value(Code.three(6, 3, 1, 2), MIN, MIN, 0);
    value(Code.three(6, 3, 1, 2), 4, 5, 1);
    value(Code.three(6, 3, 1, 2), 5, 5, 0);
  }

  @Sentence(in = "terms 4", says = "7 a << b. 8 a >>> b (by b & 31).")
  void shiftsToTheLeft() {
    int[] by = {0, 1, 31, 32, 33, 63, -1, MIN, MAX};
    int[] want = {-3, -6, MIN, -3, -6, MIN, MIN, -3, MIN};
    for (int i = 0; i < by.length; i++) {
      value(Code.three(7, 3, 1, 2), -3, by[i], want[i]);
    }
  }

  @Sentence(in = "terms 4", says = "7 a << b. 8 a >>> b (by b & 31).")
  void shiftsToTheRight() {
    int[] by = {0, 1, 31, 32, 33, 63, -1, MIN, MAX};
    int[] want = {-3, MAX - 1, 1, -3, MAX - 1, 1, 1, -3, 1};
    for (int i = 0; i < by.length; i++) {
      value(Code.three(8, 3, 1, 2), -3, by[i], want[i]);
    }
  }

  @Sentence(in = "terms 4", says = "10 d = n << 15.")
  void highNumbers() {
    value(Code.high(3, 0), 5, 6, 0);
    value(Code.high(3, 1), 5, 6, 32768);
    value(Code.high(3, MOST_N), 5, 6, 0x7fff8000);
    value(Code.high(3, LEAST_N), 5, 6, MIN);
    value(Code.high(3, -1), 5, 6, -32768);
  }

  // Memory.

  @Sentence(in = "terms 4", says = "11 d = READ a + n.")
  void readAtTheFarthestN() {
    value(Code.read(3, 1, MOST_N), 1 - MOST_N, 0, Code.add(1, 1, 1 - MOST_N & 0x7fff));
    int g = withNumbers(60 - LEAST_N, 6, Code.read(1, 1, LEAST_N));
    x.stop(g);
    due("poke", x.poke(g, 60, 99), 0);
    due("start", x.start(g, 0), 0);
    does(g, 5);
    told(g, 1, 99);
    told(g, 23, 0);
  }

  @Sentence(in = "terms 4", says = "12 WRITE b at a + n.")
  void writeAtTheFarthestN() {
    int g = withNumbers(63 - MOST_N, -8, Code.write(1, MOST_N, 2));
    goesOn(g);
    due("peek(63)", x.peek(g, 63), -8);
    g = withNumbers(62 - LEAST_N, MIN, Code.write(1, LEAST_N, 2));
    goesOn(g);
    due("peek(62)", x.peek(g, 62), MIN);
    told(g, 0, 0);
  }

  @Sentence(in = "terms 4", says = "12 WRITE b at a + n.")
  void aWordThatWritesOverItself() {
    int g = withNumbers(5, 6, Code.write(0, 4, 2), Code.go(-1));
    does(g, 2);
    due("peek(4)", x.peek(g, 4), 6);
    told(g, 8, 4);
    goesOn(g);
    told(g, 0, 0);
  }

  @Sentence(in = "terms 4", says = EXCHANGE)
  void exchangeOfOneRegister() {
    int g = withNumbers(60, 6, Code.exchange(2, 1, 0, 2), Code.exchange(2, 1, 0, 2));
    goesOn(g);
    told(g, 2, 0);
    due("peek(60)", x.peek(g, 60), 6);
    goesOn(g);
    told(g, 2, 6);
    due("peek(60)", x.peek(g, 60), 0);
  }

  @Sentence(in = "terms 4", says = EXCHANGE)
  void exchangeIntoTheAddressesRegister() {
    int g = withNumbers(60, 6, Code.exchange(1, 1, 0, 2));
    goesOn(g);
    told(g, 1, 0);
    told(g, 2, 6);
    due("peek(60)", x.peek(g, 60), 6);
    g = withNumbers(60, 6, Code.exchange(1, 1, 0, 1));
    goesOn(g);
    told(g, 1, 0);
    due("peek(60)", x.peek(g, 60), 60);
  }

  @Sentence(in = "terms 4", says = EXCHANGE)
  void exchangeOfTheTablesOwnWord() {
    for (int d : new int[] {0, D}) {
      anew();
      int g = x.guest(9);
      int entry = PRESENT | W | d | 4 << 8;
      code(g, 256, PRESENT);
      code(g, 265, entry);
      ready(g, new Program().load(2, 22).control(Code.ROOT, PAGING | 4),
          Code.exchange(3, 0, 576 + 9, 2));
      goesOn(g);
      told(g, 3, entry | USED | D);
      due("the table's word", x.peek(g, 265), 22);
    }
  }

  // Jumps.

  private void jump(int word, int a, int b, int pc) {
    int g = withNumbers(a, b, word);
    does(g, 1);
    due("PC behind op " + (word >>> 26) + " of " + a + " and " + b, x.told(g, 8), pc);
    control(g, Code.COUNT, 5);
    told(g, 23, 0);
  }

  @Sentence(in = "terms 4",
      says = "14, 15, 16: on at PC + n if a is b, is not b, is below b (with sign).")
  void jumpsIf() {
    int[][] numbers = {
      {5, 5}, {5, 6}, {6, 5}, {MIN, MAX}, {MAX, MIN}, {-1, 0}, {0, -1}, {MIN, MIN}
    };
    for (int[] ab : numbers) {
      for (int n : new int[] {7, 0, -4, -5, MOST_N, LEAST_N}) {
        int there = 4 + n;
        jump(Code.word(14, 3, 1, 2, n), ab[0], ab[1], ab[0] == ab[1] ? there : 5);
        jump(Code.word(15, 3, 1, 2, n), ab[0], ab[1], ab[0] != ab[1] ? there : 5);
        jump(Code.word(16, 3, 1, 2, n), ab[0], ab[1], ab[0] < ab[1] ? there : 5);
        told(0, 3, 0);
      }
    }
  }

  @Sentence(in = "terms 4", says = "17 d = PC + 1, on at PC + n.")
  void jumpsAndLinks() {
    for (int n : new int[] {0, 1, -5, MOST_N, LEAST_N}) {
      jump(Code.word(17, 3, 1, 2, n), 70, 80, 4 + n);
      told(0, 3, 5);
    }
  }

  @Sentence(in = "terms 4", says = "18 d = PC + 1, on at a + n (a as it was).")
  void jumpsByARegister() {
    jump(Code.word(18, 3, 1, 2, 6), 20, 80, 26);
    told(0, 3, 5);
    jump(Code.word(18, 1, 1, 2, 6), 20, 80, 26);
    told(0, 1, 5);
    jump(Code.word(18, 3, 1, 2, LEAST_N), MIN, 80, MAX - MOST_N);
    jump(Code.word(18, 3, 1, 2, MOST_N), -1, 80, 65534);
  }

  // Calls and TIME.

  @Sentence(in = "terms 4", says = "19 TRAP 8 in MODE 0, 9 in MODE 1, with n.")
  void calls() {
    for (int n : new int[] {0, 1, MOST_N, LEAST_N, -1}) {
      int g = inMode0(0, Code.word(19, 1, 2, 3, n));
      traps(g, 8, n);
      told(g, 1, 11);
      g = withNumbers(11, 6, Code.word(19, 1, 2, 3, n));
      traps(g, 9, n);
      told(g, 1, 11);
    }
  }

  @Sentence(in = "terms 4", says = "20 TIME: d = COUNT.")
  void timeIsTheCountBefore() {
    for (int count : new int[] {0, MAX, MIN, -1}) {
      anew();
      int g = x.guest(1);
      ready(g, new Program().count(count), Code.time(3));
      goesOn(g);
      told(g, 3, count);
    }
  }

  @Sentence(in = "terms 4", says = "TIME in MODE 0 likewise, if STATUS bit 10 is 0)")
  void timeInMode0() {
    int g = inMode0(FOR_TIMER | FOR_ARRIVALS, Code.time(1));
    traps(g, 3, Code.time(1));
    told(g, 1, 11);
    g = inMode0(FOR_TIME, Code.time(1));
    int count = x.told(g, 18);
    goesOn(g);
    told(g, 1, count);
    told(g, 9, 0);
  }

  @Sentence(in = "terms 4", says = "TIME in MODE 0 likewise, if STATUS bit 10 is 0)")
  void timeInMode1NeedsNoBit() {
    int g = withNumbers(11, 6, Code.time(1));
    goesOn(g);
    told(g, 1, 4);
  }

  // For MODE 1 alone.

  @Sentence(in = "terms 4", says = FOR_MODE_1)
  void refusedInMode0() {
    for (int op = 21; op <= 29; op++) {
      for (int n : new int[] {0, 1, 2, 9, 10, -1}) {
        int word = Code.word(op, 1, 2, 3, n);
        int g = inMode0(FOR_TIME, word);
        traps(g, 3, word);
        state(g, RUNNING);
        told(g, 1, 11);
        told(g, 21, 0);
      }
    }
  }

  @Sentence(in = "terms 4", says = FOR_MODE_1)
  void notRefusedInMode0() {
    for (int op = 0; op <= 18; op++) {
      int word = Code.word(op, 3, 0, 0, op >= 14 ? 1 : 0);
      int g = inMode0(0, word);
      does(g, 1);
      told(g, 23, 0);
      told(g, 9, 0);
    }
  }

  @Sentence(in = "terms 4", says = "21 d = control n.")
  void everyControlIsRead() {
    int[] values = {0x607, 101, 102, 103, 104, 105, 106, 107, 0, 3};
    for (int n = 0; n <= 9; n++) {
      anew();
      int g = x.guest(3);
      Program p = new Program();
      for (int k = 1; k < 8; k++) {
        p.control(k, values[k]);
      }
      ready(g, p.countAndStatus(500, values[0]), Code.getControl(3, n));
      goesOn(g);
      told(g, 3, n == 8 ? 500 : values[n]);
      control(g, n, n == 8 ? 501 : values[n]);
    }
  }

  @Sentence(in = "terms 4", says = OTHERS)
  void controlsThatAreNotReadOrWritten() {
    for (int n : new int[] {10, 16, 1024, MOST_N, -1, -10, LEAST_N}) {
      int g = withNumbers(5, 6, Code.getControl(1, n));
      traps(g, 2, Code.getControl(1, n));
      told(g, 1, 5);
      g = withNumbers(5, 6, Code.setControl(n, 1));
      traps(g, 2, Code.setControl(n, 1));
      g = inMode0(0, Code.getControl(1, n));
      traps(g, 3, Code.getControl(1, n));
      g = inMode0(0, Code.setControl(n, 1));
      traps(g, 3, Code.setControl(n, 1));
    }
    int g = withNumbers(5, 6, Code.setControl(9, 1));
    traps(g, 2, Code.setControl(9, 1));
    g = inMode0(0, Code.setControl(9, 1));
    traps(g, 3, Code.setControl(9, 1));
  }

  @Sentence(in = "terms 4", says = OTHERS)
  void opsThatAreNone() {
    for (int op = 30; op < 64; op++) {
      int word = Code.word(op, 1, 1, 1, 1);
      int g = withNumbers(5, 6, word);
      traps(g, 2, word);
      told(g, 1, 5);
      g = inMode0(0, word);
      traps(g, 2, word);
      told(g, 1, 11);
    }
    traps(withNumbers(5, 6, -1), 2, -1);
  }

  @Sentence(in = "terms 4", says = WRITE_CONTROL)
  void everyControlIsWritten() {
    for (int n = 1; n <= 7; n++) {
      for (int v : new int[] {MAX, 1, 0}) {
        int g = withNumbers(v, 6, Code.setControl(n, 1));
        goesOn(g);
        for (int k = 0; k < 8; k++) {
          control(g, k, k == n ? v : 0);
        }
      }
    }
    int g = withNumbers(MIN, 6, Code.setControl(Code.VECTOR, 1), Code.call(1));
    goesOn(g);
    traps(g, 9, 1);
    told(g, 8, MIN);
  }

  @Sentence(in = "terms 4", says = WRITE_CONTROL)
  void statusKeepsSixBits() {
    int g = withNumbers(-1, 6, Code.setControl(Code.STATUS, 1));
    goesOn(g);
    control(g, Code.STATUS, 0x707);
    told(g, 9, 1);
    g = withNumbers(~0x707, 6, Code.setControl(Code.STATUS, 1));
    goesOn(g);
    control(g, Code.STATUS, 0);
    told(g, 9, 1);
  }

  @Sentence(in = "terms 4", says = WRITE_CONTROL)
  void rootEmptiesTheCache() {
    for (int add = 0; add < 2; add++) {
      anew();
      int g = guestWithPages(new Program(), Code.add(7, 7, 64 * add),
          Code.setControl(Code.ROOT, 7));
      goesOn(g);
      due("cached(9)", x.cached(g, 9), 3);
      goesOn(g);
      control(g, Code.ROOT, PAGING | 4 | 64 * add);
      due("cached(0)", x.cached(g, 0), -1);
      due("cached(9)", x.cached(g, 9), -1);
      due("cached(255)", x.cached(g, 255), -1);
    }
  }

  @Sentence(in = "terms 4", says = WRITE_CONTROL)
  void otherControlsLeaveTheCache() {
    for (int n = 0; n <= 8; n++) {
      if (n != Code.ROOT) {
        anew();
        int g = guestWithPages(new Program(), Code.setControl(n, 2));
        does(g, 1);
        due("cached(9)", x.cached(g, 9), 3);
      }
    }
  }

  @Sentence(in = "terms 4", says = WRITE_CONTROL)
  void countIsThenOneMore() {
    for (int count : new int[] {0, 70, -1, MAX, MIN}) {
      int g = withNumbers(count, 6, Code.setControl(Code.COUNT, 1));
      does(g, 1);
      control(g, Code.COUNT, count + 1);
      told(g, 8, 5);
    }
  }

  @Sentence(in = "terms 4", says = BACK)
  void backToWhatWasBefore() {
    for (int bits = 0; bits < 8; bits++) {
      int status = bits | FOR_TIME;
      anew();
      int g = x.guest(1);
      Program p = new Program().control(Code.EPC, 40).control(Code.STATUS, status);
      int at = ready(g, p, Code.back());
      does(g, 1);
      told(g, 9, (bits & MODE_BEFORE) != 0 ? 1 : 0);
      int on = (bits & ON_BEFORE) != 0 ? ON : 0;
      control(g, Code.STATUS, FOR_TIME | ON_BEFORE | on);
      told(g, 8, 40);
      control(g, Code.EPC, 40);
      control(g, Code.COUNT, at + 1);
      told(g, 23, 0);
    }
  }

  @Sentence(in = "terms 4", says = BACK)
  void backToAnyNumber() {
    for (int pc : new int[] {0, 63, 64, -1, MIN, MAX}) {
      anew();
      int g = x.guest(1);
      ready(g, new Program().control(Code.EPC, pc), Code.back());
      does(g, 1);
      told(g, 8, pc);
    }
  }

  @Sentence(in = "terms 4", says = BACK)
  void backLeavesTheCache() {
    int g = guestWithPages(new Program().control(Code.EPC, 40), Code.back());
    does(g, 1);
    told(g, 8, 40);
    due("cached(0)", x.cached(g, 0), 1);
    due("cached(9)", x.cached(g, 9), 3);
    due("cached(255)", x.cached(g, 255), 2);
  }

  /** Pages 0, 9 and 255 are in the cache, with 1, 3 and 2; r2 is 0. */
  private int guestWithPages(Program p, int... behind) {
    int g = x.guest(9);
    code(g, 256, PRESENT | W);
    code(g, 265, PRESENT | W | U);
    x.poke(g, 511, PRESENT | U);
    p.control(Code.ROOT, PAGING | 4).then(Code.read(3, 0, 576), Code.read(3, 0, 16383));
    ready(g, p, behind);
    due("cached(0)", x.cached(g, 0), 1);
    due("cached(9)", x.cached(g, 9), 3);
    due("cached(255)", x.cached(g, 255), 2);
    return g;
  }

  @Sentence(in = "terms 4", says = "24 the cache is emptied.")
  void theCacheIsEmptied() {
    int g = guestWithPages(new Program(), Code.emptyCache(), Code.halt());
    goesOn(g);
    for (int page = 0; page < 256; page++) {
      due("cached(" + page + ")", x.cached(g, page), -1);
    }
    due("the table stays", x.peek(g, 265), PRESENT | W | U | USED);
    goesOn(g);
    due("cached(0)", x.cached(g, 0), 1);
  }

  @Sentence(in = "terms 4", says = "25 the cache has nothing for page a & 255.")
  void onePageIsForgotten() {
    int[] numbers = {0, 9, 255, 256, 256 + 9, -1, MIN, MAX, 10, -247};
    int[] pages = {0, 9, 255, 0, 9, 255, 0, 255, 10, 9};
    for (int i = 0; i < numbers.length; i++) {
      anew();
      int g = guestWithPages(new Program().load(1, numbers[i]), Code.forget(1));
      goesOn(g);
      due("cached(0)", x.cached(g, 0), pages[i] == 0 ? -1 : 1);
      due("cached(9)", x.cached(g, 9), pages[i] == 9 ? -1 : 3);
      due("cached(255)", x.cached(g, 255), pages[i] == 255 ? -1 : 2);
      due("cached(10)", x.cached(g, 10), -1);
    }
  }

  // WAIT and HALT.

  @Sentence(in = "terms 4", says = WAIT_NOTHING)
  void waitWithAWordThatWaits() {
    for (int timer : new int[] {0, 1000}) {
      for (int status : new int[] {0, FOR_ARRIVALS, FOR_TIMER}) {
        anew();
        int g = x.guest(1);
        x.input(g, 0);
        Program p = new Program().control(Code.TIMER, timer).control(Code.STATUS, status);
        ready(g, p, Code.pause());
        goesOn(g);
        state(g, RUNNING);
        told(g, 20, 1);
      }
    }
  }

  @Sentence(in = "terms 4", says = WAIT_NOTHING)
  void waitWithTheTimersLineUp() {
    for (int status : new int[] {0, FOR_TIMER, FOR_ARRIVALS, ON | FOR_ARRIVALS}) {
      anew();
      int g = x.guest(1);
      Program p = new Program().control(Code.TIMER, 500).countAndStatus(500, status);
      ready(g, p, Code.pause());
      goesOn(g);
      control(g, Code.COUNT, 501);
      state(g, RUNNING);
    }
  }

  @Sentence(in = "terms 4", says = WAIT_NOTHING)
  void waitByTheCountBefore() {
    anew();
    int g = x.guest(1);
    ready(g, new Program().control(Code.TIMER, 1).count(MIN), Code.pause());
    goesOn(g);
    control(g, Code.COUNT, MIN + 1);
    state(g, RUNNING);
  }

  @Sentence(in = "terms 4",
      says = "else, is TIMER not 0, COUNT is TIMER behind this instruction (not one more)")
  void waitForTheTimer() {
    int[] timers = {500, 500, -1, MIN, MAX, 1};
    int[] counts = {7, 499, -2, MAX, 0, MIN + 1};
    for (int i = 0; i < timers.length; i++) {
      anew();
      int g = x.guest(1);
      Program p = new Program().control(Code.TIMER, timers[i]).count(counts[i]);
      int at = ready(g, p, Code.pause(), Code.pause());
      does(g, 1);
      control(g, Code.COUNT, timers[i]);
      told(g, 8, at + 1);
      state(g, RUNNING);
      goesOn(g);
    }
  }

  @Sentence(in = "terms 4", says = "else the guest is WAITING.")
  void waitForAWord() {
    for (int status : new int[] {0, ON | FOR_ARRIVALS | FOR_TIMER}) {
      anew();
      int g = x.guest(1);
      ready(g, new Program().control(Code.STATUS, status), Code.pause(), Code.in(3, 1));
      goesOn(g);
      state(g, WAITING);
      due("only", x.only(g, 5), 0);
      due("run", x.run(5), 0);
      due("input", x.input(g, 4), 0);
      state(g, RUNNING);
      does(g, 1);
      control(g, Code.CAUSE, status == 0 ? 0 : 17);
      told(g, 3, status == 0 ? 1 : 0);
    }
  }

  @Sentence(in = "terms 4",
      says = "27 it is HALTED. (PC, and COUNT but for that, as with others.)")
  void halt() {
    int g = withNumbers(5, 6, Code.halt(), Code.set(1, 9));
    goesOn(g);
    state(g, HALTED);
    due("only", x.only(g, 5), 0);
    due("run", x.run(5), 0);
    told(g, 1, 5);
    x.input(g, 1);
    state(g, HALTED);
  }

  // IN and OUT.

  @Sentence(in = "terms 4",
      says = "0 the oldest word that waits, which is taken (0 if none waits)")
  void inTakesTheOldest() {
    int g = withNumbers(5, 6, Code.in(1, 0), Code.in(1, 0), Code.in(1, 0), Code.in(1, 0));
    goesOn(g);
    told(g, 1, 0);
    told(g, 20, 0);
    x.input(g, MIN);
    x.input(g, -1);
    goesOn(g);
    told(g, 1, MIN);
    told(g, 20, 1);
    goesOn(g);
    told(g, 1, -1);
    told(g, 20, 0);
    goesOn(g);
    told(g, 1, 0);
    told(g, 20, 0);
  }

  @Sentence(in = "terms 4",
      says = "1 how many wait, 2 how many were put out, 3 PLACE, else 0.")
  void inTellsNumbers() {
    int g = withNumbers(-9, 6, Code.in(3, 1), Code.in(3, 1), Code.in(3, 2), Code.out(1, 0),
        Code.in(3, 2), Code.in(3, 3), Code.out(1, 1), Code.in(3, 3));
    goesOn(g);
    told(g, 3, 0);
    for (int i = 0; i < 65; i++) {
      x.input(g, 3);
    }
    goesOn(g);
    told(g, 3, 64);
    told(g, 20, 64);
    goesOn(g);
    told(g, 3, 0);
    does(g, 2);
    told(g, 3, 1);
    goesOn(g);
    told(g, 3, 0);
    does(g, 2);
    told(g, 3, -9);
  }

  @Sentence(in = "terms 4",
      says = "1 how many wait, 2 how many were put out, 3 PLACE, else 0.")
  void inTellsHowManyWerePutOutBeyondThoseKept() {
    int g = started(1, Code.out(0, 0), Code.in(3, 2), Code.go(-2));
    does(g, 2000);
    does(g, 1004);
    told(g, 3, 1001);
    does(g, 1);
    told(g, 21, 1002);
    does(g, 1);
    told(g, 3, 1002);
  }

  @Sentence(in = "terms 4",
      says = "1 how many wait, 2 how many were put out, 3 PLACE, else 0.")
  void inOfAnotherNumber() {
    for (int n : new int[] {4, -1, MOST_N, LEAST_N, 1024}) {
      int g = withNumbers(5, 6, Code.out(1, 1), Code.in(1, n));
      x.input(g, 8);
      goesOn(g);
      goesOn(g);
      told(g, 1, 0);
      told(g, 20, 1);
    }
  }

  @Sentence(in = "terms 4", says = "29 OUT: by n: 0 a is put out; 1 PLACE is a;")
  void outPutsOutOrSetsPlace() {
    for (int v : new int[] {0, -1, MIN, MAX}) {
      int g = withNumbers(v, 6, Code.out(1, 0), Code.out(1, 1));
      goesOn(g);
      told(g, 21, 1);
      due("out(0)", x.out(g, 0), v);
      told(g, 22, 0);
      goesOn(g);
      told(g, 21, 1);
      told(g, 22, v);
    }
  }

  /** Frames 1 and 2 of three, sectors 0, 14 and 15 have words of their own; PLACE is as told. */
  private int withDisk(int place, int a) {
    anew();
    int g = x.guest(3);
    for (int i : new int[] {0, 63}) {
      x.poke(g, 64 + i, 100 + i);
      x.poke(g, 128 + i, 200 + i);
      x.pokeDisk(g, i, 1000 + i);
      x.pokeDisk(g, 64 * 14 + i, 2000 + i);
      x.pokeDisk(g, 64 * 15 + i, 3000 + i);
    }
    ready(g, new Program().load(1, place).load(2, a).then(Code.out(1, 1)), Code.out(2, 2));
    return g;
  }

  private void words(int g, int frame1, int frame2, int[] sectors) {
    for (int i : new int[] {0, 63}) {
      due("peek of frame 1", x.peek(g, 64 + i), frame1 + i);
      due("peek of frame 2", x.peek(g, 128 + i), frame2 + i);
      due("disk of sector 0", x.disk(g, i), sectors[0] + i);
      due("disk of sector 14", x.disk(g, 64 * 14 + i), sectors[1] + i);
      due("disk of sector 15", x.disk(g, 64 * 15 + i), sectors[2] + i);
    }
    due("sector 1 is empty", x.disk(g, 64), 0);
    due("sector 13 is empty", x.disk(g, 64 * 14 - 1), 0);
  }

  @Sentence(in = "terms 4", says = DISK)
  void aFrameToASector() {
    int[] numbers = {1, 29, 31, 33, 61, 63, -1, MIN | 1, MAX};
    int[] sectors = {0, 14, 15, 0, 14, 15, 15, 0, 15};
    for (int i = 0; i < numbers.length; i++) {
      int g = withDisk(2, numbers[i]);
      goesOn(g);
      int s = sectors[i];
      int[] want = {s == 0 ? 200 : 1000, s == 14 ? 200 : 2000, s == 15 ? 200 : 3000};
      words(g, 100, 200, want);
    }
  }

  @Sentence(in = "terms 4", says = DISK)
  void aSectorToAFrame() {
    int[] numbers = {0, 28, 30, 32, 62, -2, MIN, MAX - 1};
    int[] sectors = {0, 14, 15, 0, 15, 15, 0, 15};
    int[] all = {1000, 2000, 3000};
    for (int i = 0; i < numbers.length; i++) {
      int g = withDisk(1, numbers[i]);
      goesOn(g);
      words(g, sectors[i] == 0 ? 1000 : sectors[i] == 14 ? 2000 : 3000, 200, all);
    }
  }

  @Sentence(in = "terms 4", says = DISK)
  void aPlaceThatIsNoFrame() {
    for (int place : new int[] {3, 64, 66, 256 + 1, -1, MIN, MIN + 1, MAX}) {
      for (int a : new int[] {0, 1, 30, 31}) {
        int g = withDisk(place, a);
        goesOn(g);
        words(g, 100, 200, new int[] {1000, 2000, 3000});
        told(g, 22, place);
      }
    }
  }

  @Sentence(in = "terms 4", says = DISK)
  void theFirstAndTheLastOf64Frames() {
    for (int place : new int[] {0, 63}) {
      anew();
      int g = x.guest(64);
      int at = 64 * 20;
      code(g, at, Code.set(1, place), Code.out(1, 1), Code.set(2, 31), Code.out(2, 2));
      x.poke(g, 64 * place + 63, 99);
      due("start", x.start(g, at), 0);
      does(g, 4);
      due("disk(1023)", x.disk(g, 1023), 99);
      told(g, 23, 0);
    }
  }

  @Sentence(in = "terms 4", says = DISK)
  void aSectorOverItsOwnInstruction() {
    int g = started(1, Code.out(0, 2), Code.halt());
    x.stop(g);
    x.pokeDisk(g, 1, Code.set(4, 44));
    due("start", x.start(g, 0), 0);
    goesOn(g);
    due("peek(0)", x.peek(g, 0), 0);
    goesOn(g);
    told(g, 4, 44);
    state(g, RUNNING);
  }

  @Sentence(in = "terms 4", says = DISK)
  void aSectorToAFrameThatNoneHasWritten() {
    for (int place = 1; place <= 2; place++) {
      anew();
      x.install(4, 10);
      int g = x.guest(3);
      int other = x.guest(3);
      int at = 64 * place + 5;
      x.pokeDisk(g, 64 + 5, 99);
      ready(g, new Program().load(1, place).load(2, 2).then(Code.out(1, 1)), Code.out(2, 2));
      due("copy", x.copy(g), 2);
      goesOn(g);
      due("its frame", x.peek(g, at), 99);
      due("its other frame", x.peek(g, 64 * (3 - place) + 5), 0);
      due("the other guest's frame", x.peek(other, at), 0);
      due("the copy's frame", x.peek(2, at), 0);
      due("a new guest", x.guest(3), 3);
      due("the new guest's frame", x.peek(3, at), 0);
      due("its frame again", x.peek(g, at), 99);
      due("audit", x.audit(), 0);
    }
  }

  @Sentence(in = "terms 4", says = DISK)
  void outOfAnotherNumberDoesNothing() {
    for (int n : new int[] {3, 4, -1, -2, MOST_N, LEAST_N, 1024}) {
      anew();
      int g = x.guest(1);
      x.pokeDisk(g, 0, 5);
      ready(g, new Program().load(1, 7), Code.out(1, n));
      goesOn(g);
      told(g, 21, 0);
      told(g, 22, 0);
      due("disk(0)", x.disk(g, 0), 5);
      due("disk(64 * 3)", x.disk(g, 64 * 3), 0);
    }
  }
}
