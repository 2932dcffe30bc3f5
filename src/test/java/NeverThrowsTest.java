/** Rule 7: no call throws or fails to end, for any arguments in any state. */
public final class NeverThrowsTest extends Bench {
  private static final int[] NUMBERS = {
    MIN, MIN + 1, -16385, -65, -64, -1, 0, 1, 2, 3, 4, 7, 8, 9, 19, 23, 24, 63, 64, 65, 255, 256,
    257, 999, 1000, 1001, 1023, 1024, 1999, 2000, 2001, 4095, 4096, 16383, 16384, MAX - 1, MAX
  };
  private static final String ALWAYS =
      "No call may ever throw or fail to end, for any arguments in any state";

  public static void main(String[] args) {
    new NeverThrowsTest().testSentences();
  }

  private void lookAt(int g) {
    x.state(g);
    for (int n : NUMBERS) {
      x.told(g, n);
      x.peek(g, n);
      x.disk(g, n);
      x.out(g, n);
      x.cached(g, n);
      x.house(n);
    }
    due("audit", x.audit(), 0);
  }

  private void change(int g) {
    for (int n : NUMBERS) {
      x.poke(g, n, n);
      x.pokeDisk(g, n, n);
      x.input(g, n);
      x.start(g, n);
      x.only(g, n);
      x.run(n);
      x.stop(g);
    }
    due("audit", x.audit(), 0);
  }

  private void allCalls() {
    for (int g : NUMBERS) {
      lookAt(g);
      change(g);
      x.copy(g);
      lookAt(g);
      x.drop(g);
      x.guest(g);
    }
  }

  @Sentence(in = "LANGUAGE.md, rule 7", says = ALWAYS)
  void inAnEmptyHouse() {
    allCalls();
  }

  @Sentence(in = "LANGUAGE.md, rule 7", says = ALWAYS)
  void inAFullHouse() {
    x.install(4, 1);
    for (int g = 0; g < 8; g++) {
      x.guest(g % 2 == 0 ? 64 : 1);
    }
    allCalls();
  }

  @Sentence(in = "LANGUAGE.md, rule 7", says = ALWAYS)
  void inEveryState() {
    for (int s = STOPPED; s <= HALTED; s++) {
      guestIn(s);
      guestIn(s);
    }
    allCalls();
  }

  @Sentence(in = "LANGUAGE.md, rule 7", says = ALWAYS)
  void installOfAnyNumbers() {
    for (int h : NUMBERS) {
      for (int slice : NUMBERS) {
        x.install(h, slice);
        x.guest(3);
        x.run(3);
      }
    }
    due("audit", x.audit(), 0);
  }

  /** Every op, with numbers at the edges in registers and in n, in both modes and with pages. */
  @Sentence(in = "LANGUAGE.md, rule 7", says = ALWAYS)
  void anyInstruction() {
    for (int mode = 0; mode < 4; mode++) {
      for (int number : NUMBERS) {
        anew();
        x.install(4, 10);
        int g = x.guest(9);
        code(g, 256, PRESENT | W | U);
        x.poke(g, 256 + 255, PRESENT | W | U | 8 << 8);
        Program p = new Program().load(1, number);
        int root = mode >= 2 ? PAGING | 4 : 0;
        if (mode % 2 == 0) {
          p.userWithPages(root, 0);
        } else {
          p.control(Code.ROOT, root);
        }
        anyInstruction(g, p);
        due("audit", x.audit(), 0);
      }
    }
  }

  private void anyInstruction(int g, Program p) {
    for (int op = 0; op < 64; op++) {
      for (int n : new int[] {0, 1, 2, 5, 9, 65535, -65536, -1}) {
        x.stop(g);
        code(g, 0, p.words());
        x.poke(g, p.size(), Code.word(op, 2, 1, 1, n));
        x.start(g, 0);
        x.only(g, p.size() + 3);
      }
    }
  }
}
