import java.util.Random;

/** Runs of random calls on the class and on the plain house, which must answer alike. */
public final class RandomRunsTest {
  private static final int RUNS = 400;
  private static final int CALLS = 120;
  private static final int[] HOST_FRAMES = {4, 4, 5, 7, 8, 16, 64, 256};
  private static final int[] EDGES = {
    Integer.MIN_VALUE, -65536, -1, 0, 1, 2, 7, 8, 9, 63, 64, 65, 255, 256, 999, 1000, 1001, 1023,
    1024, 2000, 2001, 4095, 4096, 16383, 16384, Integer.MAX_VALUE
  };

  private final Random random;
  private final Checks checks;
  private final int run;
  private final GuestHouse house = new GuestHouse();
  private final PlainHouse plain = new PlainHouse();
  private final int[] sizes = new int[8];
  /** Whether the guest that is made now mostly does what MODE 0 may do. */
  private boolean tame;

  private RandomRunsTest(int run, Checks checks) {
    this.run = run;
    this.checks = checks;
    random = new Random(run);
  }

  public static void main(String[] args) {
    Checks checks = new Checks();
    int runs = args.length > 0 ? Integer.parseInt(args[0]) : RUNS;
    long traps = 0;
    for (int i = 0; i < runs && checks.wrong() == 0; i++) {
      traps += new RandomRunsTest(i, checks).go();
    }
    if (checks.wrong() == 0 && traps == 0) {
      checks.fail("the runs met no trap: they are not worth much");
    }
    checks.end();
  }

  private long go() {
    install();
    for (int i = 1 + random.nextInt(3); i > 0; i--) {
      guest();
    }
    long traps = 0;
    for (int i = 0; i < CALLS && checks.wrong() == 0; i++) {
      oneCall();
      if (random.nextInt(12) == 0) {
        compareAll();
      }
    }
    compareAll();
    for (int g = 0; g < 8; g++) {
      traps += house.told(g, 23);
    }
    return traps;
  }

  private int pick(int... from) {
    return from[random.nextInt(from.length)];
  }

  private void due(String call, int got, int want) {
    if (got != want) {
      checks.due("random run " + run + ": " + call, got, want);
    }
  }

  private void install() {
    int h = pick(HOST_FRAMES);
    int slice = pick(1, 2, 3, 10, 100, 1000);
    due("install(" + h + ", " + slice + ")", house.install(h, slice), plain.install(h, slice));
  }

  private void guest() {
    int frames = pick(1, 2, 3, 4, 5, 6, 8, 12, 20, 64);
    int g = house.guest(frames);
    due("guest(" + frames + ")", g, plain.guest(frames));
    if (g >= 0 && g < 8) {
      sizes[g] = frames;
      fill(g, frames);
      startAgain(g);
    }
  }

  private void startAgain(int g) {
    int pc = random.nextInt(5) == 0 ? random.nextInt(64 * Math.max(1, sizes[g])) : 0;
    due("start(" + g + ", " + pc + ")", house.start(g, pc), plain.start(g, pc));
  }

  private void poke(int g, int at, int v) {
    due("poke(" + g + ", " + at + ", " + v + ")", house.poke(g, at, v), plain.poke(g, at, v));
  }

  private void fill(int g, int frames) {
    int table = random.nextInt(frames);
    tame = random.nextBoolean();
    for (int i = 0; i < 64 * frames; i++) {
      int kind = random.nextInt(10);
      boolean inTable = i / 64 >= table && i / 64 < table + 4 && frames > 1;
      if (inTable && kind < 9) {
        poke(g, i, tableWord(frames));
      } else if (kind < 9) {
        poke(g, i, instruction(frames));
      }
    }
    if (tame || random.nextInt(4) != 0) {
      prologue(g, frames, table);
    }
    for (int i = 0; i < 40; i++) {
      int at = random.nextInt(1024);
      int v = random.nextBoolean() ? instruction(frames) : tableWord(frames);
      due("pokeDisk", house.pokeDisk(g, at, v), plain.pokeDisk(g, at, v));
    }
  }

  /** Most guests get a vector, a timer and pages, as random words alone seldom set these. */
  private void prologue(int g, int frames, int table) {
    int at = 0;
    int[] values = {
      random.nextInt(64 * frames), random.nextInt(2048), random.nextInt(300), random.nextInt(128)
    };
    int[] controls = {Code.VECTOR, Code.STATUS, Code.TIMER, Code.EPC};
    for (int i = 0; i < 4; i++) {
      if (random.nextInt(5) != 0) {
        poke(g, at++, Code.set(1, values[i]));
        poke(g, at++, Code.setControl(controls[i], 1));
      }
    }
    if (random.nextInt(4) != 0) {
      poke(g, at++, Code.high(1, -65536));
      poke(g, at++, Code.add(1, 1, table));
      poke(g, at++, Code.setControl(Code.ROOT, 1));
      if (table != 0) {
        poke(g, 64 * table, 7);
      }
    }
    if (tame || random.nextBoolean()) {
      poke(g, at, Code.back());
    }
  }

  private int tableWord(int frames) {
    int frame = random.nextInt(20) == 0 ? random.nextInt(64) : random.nextInt(frames);
    int bits = random.nextInt(32);
    bits |= random.nextInt(8) != 0 ? 1 : 0;
    bits |= random.nextInt(3) != 0 ? 6 : 0;
    return frame << 8 | bits | (random.nextInt(10) == 0 ? random.nextInt() & ~0x3fff : 0);
  }

  private int instruction(int frames) {
    int d = random.nextInt(6) == 0 ? 0 : 1 + random.nextInt(7);
    int a = random.nextInt(8);
    int b = random.nextInt(8);
    boolean common = tame && random.nextInt(12) != 0;
    switch (common ? 1 + random.nextInt(7) : random.nextInt(15)) {
      case 0:
        return random.nextInt();
      case 1:
      case 2:
        return Code.word(random.nextInt(11), d, a, b, random.nextInt(400) - 100);
      case 3:
      case 4:
      case 5:
        return Code.word(11 + random.nextInt(3), d, pick(0, 0, 0, a), b, address(frames));
      case 6:
        return Code.word(14 + random.nextInt(5), d, pick(0, a), b, random.nextInt(40) - 8);
      case 7:
        return Code.word(pick(19, 20, 20), d, a, b, random.nextInt(100) - 50);
      case 8:
        return Code.getControl(d, random.nextInt(11));
      case 9:
        return Code.setControl(pick(0, 1, 2, 3, 4, 6, 7, 8, 9, 5), pick(0, a));
      case 10:
        return Code.word(pick(23, 24, 25, 25, 26, 23), d, a, b, 0);
      case 11:
        return Code.word(random.nextInt(60) == 0 ? 27 : 28, d, a, b, random.nextInt(6) - 1);
      case 12:
        return Code.word(29, d, pick(7, 7, a), b, pick(-1, 0, 1, 1, 2, 2, 2, 3));
      case 13:
        return Code.set(7, random.nextInt(frames + 1));
      default:
        return Code.set(d, pick(random.nextInt(64), address(frames), tableWord(frames)));
    }
  }

  private int address(int frames) {
    int most = random.nextInt(6) == 0 ? 16384 : 64 * frames;
    return random.nextInt(20) == 0 ? -random.nextInt(70) : random.nextInt(most);
  }

  private int number() {
    return random.nextInt(3) == 0 ? pick(EDGES) : random.nextInt(300);
  }

  private void oneCall() {
    int g = random.nextInt(20) == 0 ? pick(EDGES) : random.nextInt(8);
    int n = random.nextInt(10) == 0 ? number() : random.nextInt(80);
    int v = number();
    switch (random.nextInt(24)) {
      case 0, 1, 2, 3, 4, 5 -> due("run(" + n + ")", house.run(n), plain.run(n));
      case 6, 7, 8 -> due("only(" + g + ", " + n + ")", house.only(g, n), plain.only(g, n));
      case 9 -> copy(g);
      case 10 -> {
        if (random.nextInt(3) == 0) {
          due("drop(" + g + ")", house.drop(g), plain.drop(g));
        }
      }
      case 11, 12 -> manyInputs(g, v);
      case 13 -> {
        due("stop(" + g + ")", house.stop(g), plain.stop(g));
        poke(g, v, random.nextInt());
        due("pokeDisk", house.pokeDisk(g, v, n), plain.pokeDisk(g, v, n));
      }
      case 14 -> due("start(" + g + ", " + v + ")", house.start(g, v), plain.start(g, v));
      case 15, 16 -> guest();
      case 17 -> {
        if (random.nextInt(10) == 0) {
          due("install", house.install(v, n), plain.install(v, n));
        }
      }
      case 18 -> {
        if (house.state(g) != 1) {
          due("stop(" + g + ")", house.stop(g), plain.stop(g));
          startAgain(g & 7);
        }
      }
      case 19 -> due("guest(" + v + ")", house.guest(v), plain.guest(v));
      case 20 -> poke(g, v, n);
      default -> lookAt(g, v);
    }
  }

  private void copy(int g) {
    int made = house.copy(g);
    due("copy(" + g + ")", made, plain.copy(g));
    if (made >= 0 && made < 8) {
      sizes[made] = sizes[g];
    }
  }

  private void manyInputs(int g, int v) {
    for (int i = random.nextInt(20) == 0 ? 70 : 2; i > 0; i--) {
      due("input(" + g + ", " + v + ")", house.input(g, v + i), plain.input(g, v + i));
    }
  }

  private void lookAt(int g, int v) {
    due("state(" + g + ")", house.state(g), plain.state(g));
    due("told(" + g + ", " + v + ")", house.told(g, v), plain.told(g, v));
    due("peek(" + g + ", " + v + ")", house.peek(g, v), plain.peek(g, v));
    due("disk(" + g + ", " + v + ")", house.disk(g, v), plain.disk(g, v));
    due("out(" + g + ", " + v + ")", house.out(g, v), plain.out(g, v));
    due("cached(" + g + ", " + v + ")", house.cached(g, v), plain.cached(g, v));
    due("house(" + v + ")", house.house(v), plain.house(v));
  }

  private void compareAll() {
    due("audit()", house.audit(), 0);
    for (int i = -1; i < 5; i++) {
      due("house(" + i + ")", house.house(i), plain.house(i));
    }
    for (int g = 0; g < 8; g++) {
      due("state(" + g + ")", house.state(g), plain.state(g));
      for (int i = -1; i < 25; i++) {
        due("told(" + g + ", " + i + ")", house.told(g, i), plain.told(g, i));
      }
      for (int i = -1; i < 257; i++) {
        due("cached(" + g + ", " + i + ")", house.cached(g, i), plain.cached(g, i));
      }
      for (int i = -1; i < 1025; i++) {
        due("disk(" + g + ", " + i + ")", house.disk(g, i), plain.disk(g, i));
        due("out(" + g + ", " + i + ")", house.out(g, i), plain.out(g, i));
      }
      for (int i = -1; i < 4097; i++) {
        due("peek(" + g + ", " + i + ")", house.peek(g, i), plain.peek(g, i));
      }
    }
    due("audit()", house.audit(), 0);
  }
}
