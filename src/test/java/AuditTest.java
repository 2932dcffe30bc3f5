import java.lang.reflect.Field;

/**
 * Promise 20. A right system answers 0 whatever audit() looks at, so it is shown wrong ones: in
 * houses that are all alike, each entry of each table in turn is changed from outside.
 */
public final class AuditTest extends Bench {
  private static final String SAYS =
      "How much in the host's memory and tables is not as it must be";
  private static final int HOST_FRAMES = 6;
  private static final int GUEST_FRAMES = 6;
  private static final int WORDS = 64;
  private static final int NONE = -1;
  private static final int BLANK = 0;
  private static final int TABLE = 5;
  /** Stands where a guest's number stands for a table of a guest. */
  private static final int HOST = -1;

  public static void main(String[] args) {
    new AuditTest().testSentences();
  }

  @Sentence(in = "promise 20", says = SAYS)
  void howManyUseEachSheet() {
    int[] uses = row(HOST, "uses");
    for (int s = 0; s < uses.length; s++) {
      seesEntry(HOST, "uses", s, uses[s] + 1, uses[s] - 1);
    }
  }

  @Sentence(in = "promise 20", says = SAYS)
  void whereEachSheetIs() {
    int sheets = row(HOST, "where").length;
    for (int s = 0; s < sheets; s++) {
      seesEntry(HOST, "where", s, NONE, 0, HOST_FRAMES - 1, HOST_FRAMES, 255, 256, -2, MIN, MAX);
    }
  }

  @Sentence(in = "promise 20", says = SAYS)
  void whatEachFrameHas() {
    int sheets = row(HOST, "uses").length;
    int frames = row(HOST, "owner").length;
    for (int f = 0; f < frames; f++) {
      seesEntry(HOST, "owner", f, NONE, BLANK, 1, sheets - 1, sheets, -2, MIN, MAX);
    }
  }

  @Sentence(in = "promise 20", says = SAYS)
  void eachSheetThatIsFree() {
    int sheets = row(HOST, "uses").length;
    int[] free = row(HOST, "free");
    int count = number(HOST, "freeCount");
    for (int i = 0; i < count; i++) {
      int another = free[i == 0 ? count - 1 : 0];
      seesEntry(HOST, "free", i, BLANK, 1, another, sheets, NONE, MIN, MAX);
    }
    seesNumber(HOST, "freeCount", count - 1, count + 1, 0, sheets, NONE, MIN, MAX);
  }

  @Sentence(in = "promise 20", says = SAYS)
  void eachWordOfSheetsInMemoryThatAreUnchanged() {
    busy();
    int[] where = (int[]) valueOf(HOST, "where");
    boolean[] changed = (boolean[]) valueOf(HOST, "changed");
    int seen = 0;
    for (int s = 0; s < where.length; s++) {
      if (where[s] != NONE && !changed[s]) {
        eachWord("memory", where[s] * WORDS);
        eachWord("away", s * WORDS);
        seen++;
      }
    }
    enough("unchanged sheets in memory", seen, 3);
  }

  /** In a new house it is in no frame, so that there is nothing to compare it with. */
  @Sentence(in = "promise 20", says = SAYS)
  void eachWordOfTheBlankSheet() {
    for (int i = 0; i < WORDS; i++) {
      anew();
      ((int[]) valueOf(HOST, "away"))[BLANK * WORDS + i] = 1 << i % 32;
      isSeen("word " + i + " of the blank sheet");
    }
  }

  /** A change that is told of a sheet put away is lost, and one not told will be. */
  @Sentence(in = "promise 20", says = SAYS)
  void whetherEachSheetIsChanged() {
    busy();
    int[] where = (int[]) valueOf(HOST, "where");
    boolean[] changed = ((boolean[]) valueOf(HOST, "changed")).clone();
    int lost = 0;
    int untold = 0;
    for (int s = 0; s < changed.length; s++) {
      if (where[s] == NONE || s == BLANK) {
        seesChanged(s, true);
        lost++;
      } else if (changed[s]) {
        seesChanged(s, false);
        untold++;
      }
    }
    enough("sheets put away", lost, 3);
    enough("changed sheets", untold, 2);
  }

  @Sentence(in = "promise 20", says = SAYS)
  void theHandAndTheFramesInUse() {
    seesNumber(HOST, "hand", NONE, HOST_FRAMES, 256, MIN, MAX);
    seesNumber(HOST, "opened", NONE, 0, HOST_FRAMES - 1, HOST_FRAMES + 1, MIN, MAX);
  }

  @Sentence(in = "promise 20", says = SAYS)
  void theSheetsOfEachGuest() {
    int sheets = row(HOST, "uses").length;
    for (int g = 0; g < 3; g++) {
      for (int k = 0; k < GUEST_FRAMES; k++) {
        int next = row(g, "sheets")[k] + 1;
        seesEntry(g, "sheets", k, BLANK, next, sheets - 1, sheets, NONE, MIN, MAX);
      }
    }
  }

  @Sentence(in = "promise 20", says = SAYS)
  void eachPageOfACache() {
    int pages = row(0, "cache").length;
    for (int page = 0; page < pages; page++) {
      seesEntry(0, "cache", page, 8 * GUEST_FRAMES, 8 * 63 + 7, -2, MIN, MAX);
    }
    // The table's word for page 64 is behind the last frame, so nothing was filled from there.
    seesEntry(0, "cache", WORDS, 0);
    // Without pages nothing was filled at all.
    seesEntry(2, "cache", 0, 0);
  }

  @Sentence(in = "promise 20", says = SAYS)
  void numbersOfAGuest() {
    for (int bit = 0; bit < 32; bit++) {
      boolean known = bit <= 2 || bit >= 8 && bit <= 10;
      if (!known) {
        seesEntry(0, "controls", Code.STATUS, 1 << bit);
      }
    }
    seesEntry(0, "controls", 9, GUEST_FRAMES - 1, GUEST_FRAMES + 1, MIN, MAX);
    seesNumber(0, "mode", 2, NONE, MIN, MAX);
    seesNumber(0, "waiting", 65, NONE, MIN, MAX);
    seesNumber(0, "frames", GUEST_FRAMES - 1, GUEST_FRAMES + 1, 0, NONE, 65);
  }

  /** The last table that there can be, with every frame and all of W, U and D, or none. */
  @Sentence(in = "promise 20", says = "0 in a right system")
  void anyFrameAndBitsMayBeCached() {
    int g = x.guest(64);
    for (int page = 0; page < 64; page++) {
      x.poke(g, 63 * WORDS + page, PRESENT | (page & 3) << 1 | (page & 4) << 2 | page << 8);
    }
    int at = ready(g, new Program().control(Code.ROOT, NONE),
        Code.add(1, 1, WORDS), Code.read(2, 1, 0), Code.go(-2));
    does(g, 3 * 63);
    told(g, 8, at);
    told(g, 23, 0);
    for (int page = 0; page < 64; page++) {
      due("cached(" + page + ")", x.cached(g, page), 8 * page | page & 7);
    }
    due("audit", x.audit(), 0);
  }

  /** Nothing of a house with many frames, however far it had come, is left in one with few. */
  @Sentence(in = "promise 20", says = "0 in a right system")
  void aHouseAnewWithFewerFrames() {
    for (int steps = 1200; steps <= 2000; steps += 50) {
      anew();
      x.install(256, 3);
      int g = started(64, Code.write(1, 60, 1), Code.add(1, 1, WORDS), Code.go(-2));
      for (int i = 1; i < 8; i++) {
        due("copy", x.copy(g), i);
      }
      x.only(g, 3 * 60);
      due("run", x.run(steps), steps);
      due("audit of the old house", x.audit(), 0);
      x.install(4, 3);
      due("audit of the new house", x.audit(), 0);
      due("guest", x.guest(64), 0);
      for (int k = 0; k < 64; k++) {
        due("poke", x.poke(0, k * WORDS + k, k + 1), 0);
      }
      due("audit of the new house in use", x.audit(), 0);
    }
  }

  /** Sheets that are shared, alone, put away, in memory and free, and a guest with pages. */
  private void busy() {
    anew();
    x.install(HOST_FRAMES, 5);
    int g = x.guest(GUEST_FRAMES);
    for (int k = 0; k < GUEST_FRAMES; k++) {
      x.poke(g, k * WORDS + 63, 100 + k);
    }
    x.poke(g, TABLE * WORDS, PRESENT | W | U);
    ready(g, new Program().control(Code.ROOT, PAGING | TABLE), Code.loop());
    does(g, 1);
    x.copy(g);
    x.stop(1);
    for (int k = 1; k < GUEST_FRAMES; k++) {
      x.poke(1, k * WORDS + 1, 200 + k);
    }
    x.guest(GUEST_FRAMES);
    x.guest(1);
    x.poke(3, 0, 1);
    x.drop(3);
    x.peek(2, 64);
    x.peek(0, 64);
    x.peek(1, 64);
    x.poke(2, 0, 5);
    x.poke(1, 128, 6);
    due("audit", x.audit(), 0);
  }

  private void enough(String what, int got, int least) {
    if (got < least) {
      checks.fail("the test's house has only " + got + " " + what);
    }
  }

  private void eachWord(String name, int at) {
    int[] values = row(HOST, name);
    for (int i = 0; i < WORDS; i++) {
      seesEntry(HOST, name, at + i, values[at + i] ^ 1 << i % 32);
    }
  }

  private void seesEntry(int of, String name, int i, int... wrong) {
    for (int v : wrong) {
      int[] values = row(of, name);
      if (values[i] != v) {
        values[i] = v;
        isSeen(name + "[" + i + "] = " + v);
      }
    }
  }

  private void seesChanged(int s, boolean wrong) {
    busy();
    ((boolean[]) valueOf(HOST, "changed"))[s] = wrong;
    isSeen("changed[" + s + "] = " + wrong);
  }

  private void seesNumber(int of, String name, int... wrong) {
    for (int v : wrong) {
      busy();
      setNumber(of, name, v);
      isSeen(name + " = " + v);
    }
  }

  private void isSeen(String what) {
    if (x.audit() <= 0) {
      checks.fail("audit() does not see " + what);
    }
  }

  /** A row of a house that is right. */
  private int[] row(int of, String name) {
    busy();
    return (int[]) valueOf(of, name);
  }

  private int number(int of, String name) {
    busy();
    return (Integer) valueOf(of, name);
  }

  private void setNumber(int of, String name, int v) {
    Object from = part(of);
    try {
      field(from, name).setInt(from, v);
    } catch (ReflectiveOperationException e) {
      throw new IllegalStateException(e);
    }
  }

  private Object valueOf(int of, String name) {
    return valueIn(part(of), name);
  }

  private Object part(int of) {
    return of == HOST ? valueIn(x, "host") : ((Object[]) valueIn(x, "guests"))[of];
  }

  private static Object valueIn(Object from, String name) {
    try {
      return field(from, name).get(from);
    } catch (ReflectiveOperationException e) {
      throw new IllegalStateException(e);
    }
  }

  private static Field field(Object from, String name) throws ReflectiveOperationException {
    Field field = from.getClass().getDeclaredField(name);
    field.setAccessible(true);
    return field;
  }
}
