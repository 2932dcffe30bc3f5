/** The edges of 'Terms', point 3: reading and writing, the table and the cache. */
public final class PagesEdgesTest extends Bench {
  private static final int TABLE = 4;
  private static final int TABLE_AT = 64 * TABLE;
  private static final int ROOT = PAGING | TABLE;
  private static final int ALL = PRESENT | W | U;
  /** Page 9, where most tests read and write: its first address, and its table's word. */
  private static final int PAGE = 9;
  private static final int PAGE_AT = 64 * PAGE;
  private static final int ENTRY_AT = TABLE_AT + PAGE;
  private static final int FETCH = 0;

  private static final String PLAIN =
      "is bit 31 of ROOT 0: at an address below 64 F that word; else TRAP 5 with the address.";
  private static final String TOO_HIGH =
      "an address from 16384 on: PAGE TRAP: 11 for a fetch, 12 for another READ, 13 for a WRITE,"
      + " with the address.";
  private static final String NO_TABLE =
      "is that not below 64 F: TRAP 5 with the address (that is read or written, not the table's).";
  private static final String NOT_PRESENT =
      "Has it bit 0 not, or is its frame (bits 8 to 13) not below F: PAGE TRAP.";
  private static final String FILLED =
      "Else bit 3 of it becomes 1 in memory, and the cache has its frame, and its bits 1 (W), 2"
      + " (U), 4 (D).";
  private static final String NOT_D =
      "A WRITE, and not D: bit 4 of the table's word (as it is then) becomes 1 in memory, and D in"
      + " the cache.";
  private static final String NOT_AGAIN =
      "What the table says is not looked at again as long as the cache has the page.";

  public static void main(String[] args) {
    new PagesEdgesTest().testSentences();
  }

  /** What each kind of use of the address in r2 is: a read, a write, an exchange, a fetch. */
  private static final int[] KINDS = {
    Code.read(3, 2, 0), Code.write(2, 0, 1), Code.exchange(3, 2, 0, 1), FETCH
  };
  private static final int[] PAGE_TRAPS = {12, 13, 13, 11};

  /** The guest is before the use of this kind of that address; a fetch comes by a jump. */
  private void readyFor(int g, int kind, int address, Program p) {
    p.load(1, 111).load(2, address).control(Code.ROOT, ROOT);
    if (KINDS[kind] == FETCH) {
      ready(g, p, Code.word(18, 5, 2, 0, 0));
      does(g, 1);
      told(g, 8, address);
    } else {
      ready(g, p, KINDS[kind]);
    }
  }

  private void readyFor(int g, int kind, int address) {
    readyFor(g, kind, address, new Program());
  }

  private int guestWithTable(int frames, int entry) {
    int g = x.guest(frames);
    code(g, TABLE_AT, ALL);
    code(g, ENTRY_AT, entry);
    return g;
  }

  /** The use of page 9 ends in a page trap, with that entry in the table of nine frames. */
  private void refused(int kind, int entry, int cached) {
    anew();
    int g = guestWithTable(9, entry);
    readyFor(g, kind, PAGE_AT + 5);
    traps(g, PAGE_TRAPS[kind], PAGE_AT + 5);
    due("cached", x.cached(g, PAGE), cached);
    due("the table's word", x.peek(g, ENTRY_AT), cached < 0 ? entry : entry | USED);
    told(g, 3, 0);
  }

  // Without pages.

  @Sentence(in = "terms 3", says = PLAIN)
  void lastWordOfMemory() {
    for (int f : new int[] {1, 3, 64}) {
      int last = 64 * f - 1;
      anew();
      int g = x.guest(f);
      x.poke(g, last, 77);
      ready(g, new Program().load(1, 88).load(2, last), KINDS[0]);
      goesOn(g);
      told(g, 3, 77);
      anew();
      g = x.guest(f);
      ready(g, new Program().load(1, 88).load(2, last), KINDS[1]);
      goesOn(g);
      due("peek", x.peek(g, last), 88);
      anew();
      g = x.guest(f);
      x.poke(g, last, 77);
      ready(g, new Program().load(1, 88).load(2, last), KINDS[2]);
      goesOn(g);
      told(g, 3, 77);
      due("peek", x.peek(g, last), 88);
    }
  }

  @Sentence(in = "terms 3", says = PLAIN)
  void firstWordBehindMemory() {
    for (int f : new int[] {1, 3, 64}) {
      for (int kind = 0; kind < 3; kind++) {
        anew();
        int g = x.guest(f);
        ready(g, new Program().load(1, 88).load(2, 64 * f), KINDS[kind]);
        traps(g, 5, 64 * f);
        told(g, 3, 0);
      }
    }
  }

  @Sentence(in = "terms 3", says = PLAIN)
  void fetchAtTheEndOfMemory() {
    for (int f : new int[] {1, 3, 64}) {
      anew();
      int g = x.guest(f);
      x.poke(g, 64 * f - 1, Code.set(1, 6));
      due("start", x.start(g, 64 * f - 1), 0);
      goesOn(g);
      told(g, 1, 6);
      told(g, 8, 64 * f);
      traps(g, 5, 64 * f);
    }
  }

  @Sentence(in = "terms 3", says = PLAIN)
  void otherBitsOfRootDoNotMatter() {
    int g = x.guest(1);
    x.poke(g, 63, 77);
    ready(g, new Program().control(Code.ROOT, MAX), Code.read(3, 0, 63), Code.read(4, 0, 64));
    goesOn(g);
    told(g, 3, 77);
    due("cached(0)", x.cached(g, 0), -1);
    traps(g, 5, 64);
  }

  // From 16384 on.

  @Sentence(in = "terms 3", says = TOO_HIGH)
  void addressesFrom16384On() {
    for (int kind = 0; kind < KINDS.length; kind++) {
      for (int address : new int[] {16384, 16385, MAX, MIN, -1}) {
        anew();
        int g = x.guest(9);
        code(g, TABLE_AT, ALL);
        x.poke(g, TABLE_AT + 255, ALL);
        readyFor(g, kind, address);
        traps(g, PAGE_TRAPS[kind], address);
      }
    }
  }

  @Sentence(in = "terms 3", says = TOO_HIGH)
  void theLastAddressBelow16384() {
    for (int kind = 0; kind < KINDS.length; kind++) {
      anew();
      int g = x.guest(9);
      code(g, TABLE_AT, ALL);
      x.poke(g, TABLE_AT + 255, ALL | 8 << 8);
      readyFor(g, kind, 16383);
      goesOn(g);
      due("cached(255)", x.cached(g, 255), 8 * 8 + 3 + (PAGE_TRAPS[kind] == 13 ? 4 : 0));
    }
  }

  @Sentence(in = "terms 3", says = TOO_HIGH)
  void theAddressIsLookedAtBeforeTheTable() {
    for (int kind = 0; kind < KINDS.length; kind++) {
      anew();
      int g = x.guest(TABLE + 1);
      code(g, TABLE_AT, ALL);
      readyFor(g, kind, 16384);
      traps(g, PAGE_TRAPS[kind], 16384);
    }
  }

  // Filling.

  @Sentence(in = "terms 3",
      says = "the TABLE'S WORD is that at 64 (ROOT & 63) + page in memory")
  void onlySixBitsOfRootTellTheTable() {
    int g = guestWithTable(9, ALL | 5 << 8);
    ready(g, new Program().control(Code.ROOT, PAGING | 0x7fffffc0 | TABLE),
        Code.read(3, 0, PAGE_AT));
    goesOn(g);
    due("cached", x.cached(g, PAGE), 5 * 8 + 3);
    anew();
    g = x.guest(64);
    x.poke(g, 4032, PRESENT);
    x.poke(g, 4095, PRESENT | 62 << 8);
    x.poke(g, 62 * 64, 123);
    ready(g, new Program().control(Code.ROOT, -1), Code.read(3, 0, 63 * 64));
    goesOn(g);
    told(g, 3, 123);
    due("cached", x.cached(g, 63), 62 * 8);
    due("the last word of memory", x.peek(g, 4095), PRESENT | USED | 62 << 8);
  }

  @Sentence(in = "terms 3",
      says = "the TABLE'S WORD is that at 64 (ROOT & 63) + page in memory")
  void aTableThatBeginsAtZero() {
    int g = x.guest(1);
    x.poke(g, 0, PRESENT | W);
    code(g, 10, Code.high(1, -65536), Code.setControl(Code.ROOT, 1), Code.read(2, 0, 0),
        Code.read(2, 0, 64));
    due("start", x.start(g, 10), 0);
    does(g, 2);
    goesOn(g);
    told(g, 2, PRESENT | W | USED);
    due("cached(0)", x.cached(g, 0), 1);
    traps(g, 12, 64);
  }

  @Sentence(in = "terms 3", says = NO_TABLE)
  void theTablesWordIsTheLastOfMemory() {
    for (int kind = 0; kind < KINDS.length; kind++) {
      anew();
      int g = x.guest(TABLE + 1);
      code(g, TABLE_AT, ALL);
      x.poke(g, TABLE_AT + 63, ALL | 2 << 8);
      readyFor(g, kind, 64 * 63 + 5);
      goesOn(g);
      due("cached(63)", x.cached(g, 63), 2 * 8 + 3 + (PAGE_TRAPS[kind] == 13 ? 4 : 0));
    }
  }

  @Sentence(in = "terms 3", says = NO_TABLE)
  void theTablesWordIsBehindMemory() {
    for (int kind = 0; kind < KINDS.length; kind++) {
      for (int address : new int[] {64 * 64, 64 * 64 + 63, 16383}) {
        anew();
        int g = x.guest(TABLE + 1);
        code(g, TABLE_AT, ALL);
        readyFor(g, kind, address);
        traps(g, 5, address);
        due("cached", x.cached(g, address / 64), -1);
      }
    }
  }

  @Sentence(in = "terms 3", says = NO_TABLE)
  void theWholeTableIsBehindMemory() {
    int g = x.guest(TABLE);
    int at = ready(g, new Program().control(Code.ROOT, ROOT), Code.set(1, 1));
    traps(g, 5, at);
    told(g, 1, 0);
    anew();
    g = x.guest(1);
    at = ready(g, new Program().control(Code.ROOT, PAGING | 1), Code.set(1, 1));
    traps(g, 5, at);
    anew();
    g = x.guest(64);
    x.poke(g, 63 * 64, PRESENT);
    ready(g, new Program().control(Code.ROOT, PAGING | 63), Code.read(1, 0, 4096));
    traps(g, 5, 4096);
  }

  @Sentence(in = "terms 3", says = NOT_PRESENT)
  void bitZeroIsNot() {
    for (int kind = 0; kind < KINDS.length; kind++) {
      refused(kind, 0, -1);
      refused(kind, W | U | D | 5 << 8, -1);
    }
  }

  @Sentence(in = "terms 3", says = NOT_PRESENT)
  void itsFrameIsNotBelowF() {
    for (int kind = 0; kind < KINDS.length; kind++) {
      refused(kind, ALL | 9 << 8, -1);
      refused(kind, ALL | 63 << 8, -1);
      refused(kind, ALL | D | 16 << 8, -1);
    }
  }

  @Sentence(in = "terms 3", says = NOT_PRESENT)
  void itsFrameIsTheLast() {
    for (int f : new int[] {9, 64}) {
      anew();
      int g = guestWithTable(f, ALL | (f - 1) << 8);
      x.poke(g, 64 * f - 1, 66);
      readyFor(g, 0, PAGE_AT + 63);
      goesOn(g);
      told(g, 3, 66);
      due("cached", x.cached(g, PAGE), (f - 1) * 8 + 3);
    }
  }

  @Sentence(in = "terms 3", says = NOT_PRESENT)
  void otherBitsOfTheTablesWordDoNotMatter() {
    int entry = PRESENT | 0xe0 | 0xffffc000 | 8 << 8;
    int g = guestWithTable(9, entry);
    readyFor(g, 0, PAGE_AT);
    goesOn(g);
    due("cached", x.cached(g, PAGE), 8 * 8);
    due("the table's word", x.peek(g, ENTRY_AT), entry | USED);
  }

  @Sentence(in = "terms 3", says = FILLED)
  void bitsOfTheCache() {
    for (int bits = 0; bits < 8; bits++) {
      anew();
      int entry = PRESENT | (bits & 1) * W | (bits >> 1 & 1) * U | (bits >> 2) * D | 7 << 8;
      int g = guestWithTable(9, entry);
      readyFor(g, 0, PAGE_AT);
      goesOn(g);
      due("cached", x.cached(g, PAGE), 7 * 8 + bits);
      due("the table's word", x.peek(g, ENTRY_AT), entry | USED);
    }
  }

  @Sentence(in = "terms 3", says = FILLED)
  void bitThreeThatWasOneStays() {
    int g = guestWithTable(9, ALL | USED | 7 << 8);
    readyFor(g, 0, PAGE_AT);
    goesOn(g);
    due("the table's word", x.peek(g, ENTRY_AT), ALL | USED | 7 << 8);
  }

  @Sentence(in = "terms 3", says = FILLED)
  void aReadOfTheTablesOwnWordSeesBitThree() {
    int g = guestWithTable(9, PRESENT | TABLE << 8);
    readyFor(g, 0, PAGE_AT + PAGE);
    goesOn(g);
    told(g, 3, PRESENT | USED | TABLE << 8);
  }

  @Sentence(in = "terms 3", says = FILLED)
  void aFetchOfTheTablesOwnWordSeesBitThree() {
    int g = guestWithTable(9, Code.set(4, PRESENT | TABLE << 8));
    readyFor(g, 3, PAGE_AT + PAGE);
    goesOn(g);
    told(g, 4, PRESENT | USED | TABLE << 8);
  }

  @Sentence(in = "terms 3", says = FILLED)
  void twoPagesOfOneFrame() {
    int g = guestWithTable(9, ALL | 7 << 8);
    code(g, ENTRY_AT + 1, PRESENT | W | D | 7 << 8);
    ready(g, new Program().load(1, 111).control(Code.ROOT, ROOT), Code.write(0, PAGE_AT + 63, 1),
        Code.read(3, 0, PAGE_AT + 64 + 63));
    goesOn(g);
    goesOn(g);
    told(g, 3, 111);
    due("cached", x.cached(g, PAGE), 7 * 8 + 7);
    due("cached", x.cached(g, PAGE + 1), 7 * 8 + 5);
  }

  // By the cache alone.

  @Sentence(in = "terms 3", says = "MODE is 0 and not U: PAGE TRAP.")
  void mode0WithoutU() {
    for (int kind = 0; kind < KINDS.length; kind++) {
      anew();
      int g = guestWithTable(9, PRESENT | W | D | 7 << 8);
      Program p = new Program().load(1, 111).load(2, PAGE_AT + 5).userWithPages(ROOT, 0);
      boolean fetch = KINDS[kind] == FETCH;
      ready(g, p, fetch ? Code.word(18, 5, 2, 0, 0) : KINDS[kind]);
      if (fetch) {
        does(g, 1);
      }
      traps(g, PAGE_TRAPS[kind], PAGE_AT + 5);
      due("cached", x.cached(g, PAGE), 7 * 8 + 5);
      due("the table's word", x.peek(g, ENTRY_AT), PRESENT | W | D | USED | 7 << 8);
      due("the word", x.peek(g, 7 * 64 + 5), 0);
    }
  }

  @Sentence(in = "terms 3", says = "MODE is 0 and not U: PAGE TRAP.")
  void mode1WithoutU() {
    for (int kind = 0; kind < KINDS.length; kind++) {
      anew();
      int g = guestWithTable(9, PRESENT | W | 7 << 8);
      readyFor(g, kind, PAGE_AT + 5);
      goesOn(g);
    }
  }

  @Sentence(in = "terms 3", says = "MODE is 0 and not U: PAGE TRAP.")
  void mode0WithU() {
    for (int kind = 0; kind < 3; kind++) {
      anew();
      int g = guestWithTable(9, ALL | 7 << 8);
      x.poke(g, 7 * 64 + 5, 222);
      Program p = new Program().load(1, 111).load(2, PAGE_AT + 5).userWithPages(ROOT, 0);
      ready(g, p, KINDS[kind]);
      goesOn(g);
      told(g, 9, 0);
      told(g, 3, PAGE_TRAPS[kind] == 12 || kind == 2 ? 222 : 0);
      due("the word", x.peek(g, 7 * 64 + 5), kind == 0 ? 222 : 111);
    }
  }

  @Sentence(in = "terms 3", says = "A WRITE, and not W: PAGE TRAP.")
  void aWriteWithoutW() {
    refused(1, PRESENT | 7 << 8, 7 * 8);
    refused(1, PRESENT | U | 7 << 8, 7 * 8 + 2);
    refused(1, PRESENT | U | D | 7 << 8, 7 * 8 + 6);
    refused(2, PRESENT | U | 7 << 8, 7 * 8 + 2);
    due("the word", x.peek(0, 7 * 64 + 5), 0);
  }

  @Sentence(in = "terms 3", says = "A WRITE, and not W: PAGE TRAP.")
  void aWriteWithoutWInMode0() {
    for (int kind = 1; kind <= 2; kind++) {
      anew();
      int g = guestWithTable(9, PRESENT | U | 7 << 8);
      Program p = new Program().load(1, 111).load(2, PAGE_AT + 5).userWithPages(ROOT, 0);
      ready(g, p, KINDS[kind]);
      traps(g, 13, PAGE_AT + 5);
      due("the word", x.peek(g, 7 * 64 + 5), 0);
      due("the table's word", x.peek(g, ENTRY_AT), PRESENT | U | USED | 7 << 8);
    }
  }

  @Sentence(in = "terms 3", says = "A WRITE, and not W: PAGE TRAP.")
  void aReadOrFetchWithoutW() {
    for (int kind : new int[] {0, 3}) {
      anew();
      int g = guestWithTable(9, PRESENT | 7 << 8);
      readyFor(g, kind, PAGE_AT + 5);
      goesOn(g);
      due("cached", x.cached(g, PAGE), 7 * 8);
    }
  }

  @Sentence(in = "terms 3", says = NOT_D)
  void aWriteTellsDToTableAndCache() {
    for (int kind = 1; kind <= 2; kind++) {
      anew();
      int g = guestWithTable(9, PRESENT | W | 7 << 8);
      readyFor(g, kind, PAGE_AT + 5);
      goesOn(g);
      due("cached", x.cached(g, PAGE), 7 * 8 + 5);
      due("the table's word", x.peek(g, ENTRY_AT), PRESENT | W | USED | D | 7 << 8);
    }
  }

  @Sentence(in = "terms 3", says = NOT_D)
  void aReadTellsNoD() {
    for (int kind : new int[] {0, 3}) {
      anew();
      int g = guestWithTable(9, ALL | 7 << 8);
      readyFor(g, kind, PAGE_AT + 5);
      goesOn(g);
      due("cached", x.cached(g, PAGE), 7 * 8 + 3);
      due("the table's word", x.peek(g, ENTRY_AT), ALL | USED | 7 << 8);
    }
  }

  /** Page 9 is filled, then its table's word becomes V by way of page 10, then words are done. */
  private int withChangedEntry(int entry, int v, int... behind) {
    int g = guestWithTable(9, entry);
    code(g, ENTRY_AT + 1, PRESENT | W | D | TABLE << 8);
    Program p = new Program().load(1, 111).load(2, v).control(Code.ROOT, ROOT)
        .then(Code.read(3, 0, PAGE_AT), Code.write(0, PAGE_AT + 64 + PAGE, 2));
    ready(g, p, behind);
    due("the table's word", x.peek(g, ENTRY_AT), v);
    return g;
  }

  @Sentence(in = "terms 3", says = NOT_D)
  void theTablesWordAsItIsThen() {
    int g = withChangedEntry(PRESENT | W | 7 << 8, 0, Code.write(0, PAGE_AT + 5, 1));
    goesOn(g);
    due("the table's word", x.peek(g, ENTRY_AT), D);
    due("cached", x.cached(g, PAGE), 7 * 8 + 5);
    due("the word", x.peek(g, 7 * 64 + 5), 111);
  }

  @Sentence(in = "terms 3", says = NOT_D)
  void aPageThatHasDLeavesTheTable() {
    int g = withChangedEntry(PRESENT | W | D | 7 << 8, 0, Code.write(0, PAGE_AT + 5, 1));
    goesOn(g);
    due("the table's word", x.peek(g, ENTRY_AT), 0);
    due("the word", x.peek(g, 7 * 64 + 5), 111);
  }

  @Sentence(in = "terms 3", says = NOT_D)
  void aWriteToTheTablesOwnWordComesBehindD() {
    int g = guestWithTable(9, PRESENT | W | TABLE << 8);
    readyFor(g, 1, PAGE_AT + PAGE);
    goesOn(g);
    due("the table's word", x.peek(g, ENTRY_AT), 111);
    due("cached", x.cached(g, PAGE), TABLE * 8 + 5);
  }

  @Sentence(in = "terms 3",
      says = "Then the word is that of the frame, at the address's lowest six bits.")
  void theWordOfTheFrame() {
    for (int i : new int[] {0, 1, 62, 63}) {
      anew();
      int g = guestWithTable(9, PRESENT | W | 7 << 8);
      code(g, 7 * 64, 700, 701);
      code(g, 7 * 64 + 62, 762, 763);
      code(g, 8 * 64, 800);
      readyFor(g, 0, PAGE_AT + i);
      goesOn(g);
      told(g, 3, 700 + i);
    }
  }

  @Sentence(in = "terms 3", says = "(Both modes go this way.")
  void bothModesReadByTheTable() {
    for (int mode = 0; mode < 2; mode++) {
      anew();
      int g = guestWithTable(9, ALL | 7 << 8);
      x.poke(g, 7 * 64, 777);
      x.poke(g, TABLE_AT + 1, ALL | 8 << 8);
      x.poke(g, 64, 999);
      x.poke(g, 8 * 64, 888);
      Program p = new Program();
      if (mode == 0) {
        p.userWithPages(ROOT, 0);
      } else {
        p.control(Code.ROOT, ROOT);
      }
      ready(g, p, Code.read(3, 0, PAGE_AT), Code.read(4, 0, 64));
      goesOn(g);
      goesOn(g);
      told(g, 9, mode);
      told(g, 3, 777);
      told(g, 4, 888);
    }
  }

  @Sentence(in = "terms 3", says = NOT_AGAIN)
  void aPageTakenFromTheTableIsReadStill() {
    int g = withChangedEntry(ALL | 7 << 8, 0, Code.write(0, PAGE_AT + 6, 1),
        Code.read(4, 0, PAGE_AT + 6));
    goesOn(g);
    goesOn(g);
    told(g, 4, 111);
    due("the word", x.peek(g, 7 * 64 + 6), 111);
  }

  @Sentence(in = "terms 3", says = NOT_AGAIN)
  void aPageMovedInTheTableIsReadWhereItWas() {
    int g = withChangedEntry(ALL | 7 << 8, ALL | 8 << 8, Code.write(0, PAGE_AT + 6, 1));
    goesOn(g);
    due("the word", x.peek(g, 7 * 64 + 6), 111);
    due("the other frame", x.peek(g, 8 * 64 + 6), 0);
    due("cached", x.cached(g, PAGE), 7 * 8 + 7);
  }

  @Sentence(in = "terms 3", says = NOT_AGAIN)
  void wGivenInTheTableIsNotSeen() {
    int g = withChangedEntry(PRESENT | 7 << 8, ALL | D | 7 << 8, Code.write(0, PAGE_AT + 6, 1));
    traps(g, 13, PAGE_AT + 6);
    due("cached", x.cached(g, PAGE), 7 * 8);
  }

  @Sentence(in = "terms 3", says = NOT_AGAIN)
  void theTableIsLookedAtAgainBehindAnEmptying() {
    for (int word : new int[] {Code.emptyCache(), Code.forget(5)}) {
      anew();
      int g = withChangedEntry(ALL | 7 << 8, 0, Code.set(5, PAGE), word,
          Code.read(4, 0, PAGE_AT));
      goesOn(g);
      goesOn(g);
      traps(g, 12, PAGE_AT);
    }
  }
}
