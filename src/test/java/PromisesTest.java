/** Each promise, and each of the terms they lean on, by hand, as calls follow in common use. */
public final class PromisesTest extends Bench {
  public static void main(String[] args) {
    PromisesTest test = new PromisesTest();
    test.housekeeping();
    test.guestsAndMemory();
    test.running();
    test.looking();
    test.steps();
    test.pages();
    test.devices();
    test.checks.end();
  }

  // Promises 1 and 2, 19.

  private void housekeeping() {
    begin("promise 1, a new object");
    due("house(2)", x.house(2), 0);
    due("house(0)", x.house(0), 7);
    due("house(1)", x.house(1), 0);
    due("house(3)", x.house(3), 0);
    started(1, Code.word(17, 0, 0, 0, 0));
    due("run(1)", x.run(1), 1);
    due("its slice is 10", x.house(1), 9);

    begin("promise 2, install");
    due("a guest before", started(1, Code.word(17, 0, 0, 0, 0)), 0);
    due("run(3)", x.run(3), 3);
    int[][] wrong = {{3, 1}, {257, 1}, {4, 0}, {4, 1001}, {-1, -1}, {Integer.MAX_VALUE, 5}};
    for (int[] pair : wrong) {
      due("install(" + pair[0] + ", " + pair[1] + ")", x.install(pair[0], pair[1]), -1);
    }
    due("the guest stays", x.state(0), 1);
    due("the slice stays", x.house(1), 7);
    due("the steps stay", x.house(3), 3);
    due("install(4, 1)", x.install(4, 1), 0);
    due("the guest is gone", x.state(0), -14);
    due("house(0)", x.house(0), 7);
    due("house(1)", x.house(1), 0);
    due("house(3)", x.house(3), 0);
    due("install(256, 1000)", x.install(256, 1000), 0);
    started(1, Code.word(17, 0, 0, 0, 0));
    due("run(1)", x.run(1), 1);
    due("house(1)", x.house(1), 999);

    begin("promise 19, house");
    x.install(8, 4);
    started(1, Code.word(17, 0, 0, 0, 0));
    started(1, Code.word(17, 0, 0, 0, 0));
    due("run(6)", x.run(6), 6);
    due("house(0)", x.house(0), 1);
    due("house(1)", x.house(1), 2);
    due("house(2)", x.house(2), 2);
    due("only(0, 5)", x.only(0, 5), 5);
    due("house(0)", x.house(0), 1);
    due("house(1)", x.house(1), 2);
    due("house(3)", x.house(3), 11);
    due("house(4)", x.house(4), 0);
    due("house(-1)", x.house(-1), 0);
  }

  // Promises 3, 4, 5, 9, 10.

  private void guestsAndMemory() {
    begin("promise 3, guest");
    due("guest(0)", x.guest(0), -1);
    due("guest(65)", x.guest(65), -1);
    due("guest(-1)", x.guest(-1), -1);
    for (int i = 0; i < 8; i++) {
      due("guest", x.guest(i == 0 ? 64 : 1), i);
    }
    due("the ninth", x.guest(1), -12);
    due("the ninth, wrong too", x.guest(65), -1);
    x.drop(5);
    x.drop(2);
    due("the least that is free", x.guest(3), 2);
    for (int i = 0; i < 24; i++) {
      told(2, i, i == 19 ? 3 : 0);
    }
    due("it is STOPPED", x.state(2), 0);
    due("its cache is empty", x.cached(2, 0), -1);

    begin("promise 3, a guest with the number of one that was");
    int old = started(2, Code.set(1, 9), Code.out(1, 0), Code.write(0, 70, 1), Code.call(1));
    x.stop(old);
    x.pokeDisk(old, 3, 3);
    x.start(old, 0);
    x.input(old, 5);
    x.run(4);
    x.drop(old);
    due("guest(2)", x.guest(2), old);
    for (int i = 0; i < 24; i++) {
      told(old, i, i == 19 ? 2 : 0);
    }
    due("peek", x.peek(old, 70), 0);
    due("disk", x.disk(old, 3), 0);
    due("out", x.out(old, 0), 0);

    begin("promise 4, poke");
    x.guest(2);
    due("the last word", x.poke(0, 127, -5), 0);
    due("peek", x.peek(0, 127), -5);
    due("behind it", x.poke(0, 128, 1), -2);
    due("poke(0, -1, 1)", x.poke(0, -1, 1), -2);
    due("poke(0, MIN, 1)", x.poke(0, Integer.MIN_VALUE, 1), -2);
    x.start(0, 0);
    due("it runs", x.poke(0, 128, 1), -1);
    for (int g : NO_GUESTS) {
      due("poke(" + g + ", -1, 1)", x.poke(g, -1, 1), -14);
    }

    begin("promise 5, pokeDisk");
    x.guest(1);
    due("the first", x.pokeDisk(0, 0, 7), 0);
    due("the last", x.pokeDisk(0, 1023, 8), 0);
    due("behind it", x.pokeDisk(0, 1024, 1), -2);
    due("pokeDisk(0, -1, 1)", x.pokeDisk(0, -1, 1), -2);
    due("disk(0, 0)", x.disk(0, 0), 7);
    due("disk(0, 1023)", x.disk(0, 1023), 8);
    x.start(0, 0);
    due("it runs", x.pokeDisk(0, -1, 1), -1);
    for (int g : NO_GUESTS) {
      due("pokeDisk(" + g + ", -1, 1)", x.pokeDisk(g, -1, 1), -14);
    }
    copies();
  }

  private void copies() {
    begin("promise 9, copy");
    x.install(4, 10);
    int g = started(3, Code.set(1, 7), Code.out(1, 0), Code.out(1, 1), Code.write(0, 130, 1),
        Code.call(3));
    x.input(g, 41);
    x.input(g, 42);
    due("run(5)", x.run(5), 5);
    due("copy", x.copy(g), 1);
    due("state", x.state(1), 1);
    for (int i = 0; i < 24; i++) {
      told(1, i, x.told(0, i));
    }
    told(1, 22, 7);
    told(1, 23, 1);
    due("peek", x.peek(1, 130), 7);
    due("out", x.out(1, 0), 7);
    x.stop(1);
    x.poke(1, 130, 8);
    x.pokeDisk(1, 0, 9);
    x.input(1, 43);
    due("the first keeps its word", x.peek(0, 130), 7);
    due("the copy has its own", x.peek(1, 130), 8);
    due("and its own disk", x.disk(0, 0), 0);
    told(0, 20, 2);
    told(1, 20, 3);
    x.stop(0);
    x.poke(0, 131, 6);
    due("the copy does not see it", x.peek(1, 131), 0);
    due("audit", x.audit(), 0);
    for (int no : NO_GUESTS) {
      due("copy(" + no + ")", x.copy(no), -14);
    }
    for (int i = 2; i < 8; i++) {
      due("copy", x.copy(1), i);
    }
    due("there are eight", x.copy(0), -12);
    due("there are eight, and no such", x.copy(8), -14);
    x.drop(1);
    due("a copy of a copy stays", x.peek(7, 130), 8);
    due("the least that is free", x.copy(7), 1);
    due("audit", x.audit(), 0);

    begin("promise 9, a copy has the words that wait, in their order");
    g = started(1, Code.in(1, 0), Code.in(2, 0), Code.in(3, 0), Code.halt());
    x.input(g, 61);
    x.input(g, 62);
    x.input(g, 63);
    x.run(1);
    x.copy(g);
    due("only", x.only(1, 9), 3);
    told(1, 1, 61);
    told(1, 2, 62);
    told(1, 3, 63);
    told(1, 20, 0);
    told(0, 20, 2);

    begin("promise 10, drop");
    x.guest(2);
    x.guest(2);
    due("drop(0)", x.drop(0), 0);
    due("it is no more", x.state(0), -14);
    due("again", x.drop(0), -14);
    due("the other is", x.state(1), 0);
    due("house(2)", x.house(2), 1);
    for (int no : NO_GUESTS) {
      due("drop(" + no + ")", x.drop(no), -14);
    }
  }

  // Promises 6, 7, 8, 11, 12.

  private void running() {
    begin("promise 6, start");
    int g = started(5, Code.set(1, 3), Code.out(1, 0), Code.out(1, 1), Code.setControl(7, 1),
        Code.high(2, -65536), Code.add(2, 2, 1), Code.setControl(Code.ROOT, 2), Code.call(0));
    x.stop(g);
    code(g, 64, PRESENT | W | U);
    x.pokeDisk(g, 9, 9);
    x.start(g, 0);
    x.input(g, 11);
    due("run(8)", x.run(8), 8);
    due("cached", x.cached(g, 0), 3);
    due("it runs", x.start(g, 0), -1);
    x.stop(g);
    due("start(0, -3)", x.start(g, -3), 0);
    due("state", x.state(g), 1);
    for (int i = 0; i < 20; i++) {
      told(g, i, i == 8 ? -3 : i == 9 ? 1 : i == 19 ? 5 : 0);
    }
    told(g, 20, 1);
    told(g, 21, 1);
    told(g, 22, 0);
    told(g, 23, 0);
    due("cached", x.cached(g, 0), -1);
    due("memory stays", x.peek(g, 64), PRESENT | W | U | USED);
    due("disk stays", x.disk(g, 9), 9);
    due("what was put out stays", x.out(g, 0), 3);
    for (int no : NO_GUESTS) {
      due("start(" + no + ")", x.start(no, 0), -14);
    }

    begin("promise 7, stop");
    g = started(1, Code.set(1, 3), Code.halt());
    due("run(1)", x.run(1), 1);
    due("stop", x.stop(g), 0);
    due("state", x.state(g), 0);
    told(g, 1, 3);
    told(g, 8, 1);
    due("again", x.stop(g), 0);
    due("run(1)", x.run(1), 0);
    for (int no : NO_GUESTS) {
      due("stop(" + no + ")", x.stop(no), -14);
    }
    x.start(g, 1);
    x.run(1);
    due("HALTED", x.state(g), 3);
    due("start of one that is HALTED", x.start(g, 0), -1);
    due("poke of one that is HALTED", x.poke(g, 0, 0), -1);
    due("stop of one that is HALTED", x.stop(g), 0);
    due("state", x.state(g), 0);
    inputs();
    runAndOnly();
  }

  private void inputs() {
    begin("promise 8, input");
    int g = started(1, Code.pause(), Code.in(1, 1), Code.in(2, 0), Code.in(3, 0), Code.halt());
    due("run(9)", x.run(9), 1);
    due("WAITING", x.state(g), 2);
    due("input", x.input(g, -9), 0);
    due("RUNNING", x.state(g), 1);
    due("run(9)", x.run(9), 4);
    told(g, 1, 1);
    told(g, 2, -9);
    told(g, 3, 0);
    due("input of one that is HALTED", x.input(g, 100), 0);
    due("it stays", x.state(g), 3);
    for (int i = 1; i < 64; i++) {
      due("input", x.input(g, 100 + i), 0);
    }
    due("the 65th", x.input(g, 1), -12);
    told(g, 20, 64);
    x.stop(g);
    code(g, 0, Code.in(1, 0), Code.in(2, 0), Code.in(3, 1), Code.halt());
    x.start(g, 0);
    x.run(2);
    due("input", x.input(g, 7), 0);
    due("input", x.input(g, 8), 0);
    due("full again", x.input(g, 9), -12);
    x.run(2);
    told(g, 1, 100);
    told(g, 2, 101);
    told(g, 3, 64);
    for (int no : NO_GUESTS) {
      due("input(" + no + ")", x.input(no, 0), -14);
    }
    begin("promise 8, input of one that is STOPPED");
    x.guest(1);
    due("input", x.input(0, 5), 0);
    due("it stays STOPPED", x.state(0), 0);
    told(0, 20, 1);
  }

  private void runAndOnly() {
    int loop = Code.word(17, 0, 0, 0, 0);
    begin("promise 11, run");
    due("no guests", x.run(5), 0);
    due("current stays", x.house(0), 7);
    due("run(-1)", x.run(-1), -1);
    due("run(2001)", x.run(2001), -1);
    x.install(4, 3);
    started(1, loop);
    started(1, Code.set(1, 1), Code.halt());
    started(1, loop);
    due("run(0)", x.run(0), 0);
    due("none is current yet", x.house(0), 7);
    due("run(3)", x.run(3), 3);
    due("house(0)", x.house(0), 0);
    due("house(1)", x.house(1), 0);
    due("run(2)", x.run(2), 2);
    due("it halts in its slice", x.house(1), 1);
    due("house(0)", x.house(0), 1);
    due("state(1)", x.state(1), 3);
    due("run(1)", x.run(1), 1);
    due("the next is current", x.house(0), 2);
    due("with a whole slice", x.house(1), 2);
    due("run(3)", x.run(3), 3);
    due("behind 7 comes 0", x.house(0), 0);
    due("run(2000)", x.run(2000), 2000);
    x.stop(0);
    x.stop(2);
    int current = x.house(0);
    int left = x.house(1);
    due("run(5)", x.run(5), 0);
    due("current stays", x.house(0), current);
    due("left stays", x.house(1), left);

    begin("terms 5, the current one itself last, and numbers alone");
    x.install(4, 5);
    started(1, loop);
    due("run(5)", x.run(5), 5);
    due("run(1)", x.run(1), 1);
    due("house(0)", x.house(0), 0);
    due("house(1)", x.house(1), 4);
    x.drop(0);
    started(1, loop);
    due("run(1)", x.run(1), 1);
    due("its slice goes on", x.house(1), 3);

    begin("promise 12, only");
    started(1, Code.set(1, 1), Code.set(1, 2), Code.halt());
    due("only(0, 0)", x.only(0, 0), 0);
    due("only(0, 1)", x.only(0, 1), 1);
    told(0, 1, 1);
    due("only(0, -1)", x.only(0, -1), -1);
    due("only(0, 2001)", x.only(0, 2001), -1);
    due("only(0, 2000)", x.only(0, 2000), 2);
    due("only(0, 5)", x.only(0, 5), 0);
    due("house(0)", x.house(0), 7);
    due("house(1)", x.house(1), 0);
    due("house(3)", x.house(3), 3);
    for (int no : NO_GUESTS) {
      due("only(" + no + ", -1)", x.only(no, -1), -14);
    }
  }

  // Promises 13 to 18, 20.

  private void looking() {
    begin("promises 13 to 18, of what is not there");
    x.guest(1);
    x.poke(0, 0, 5);
    x.poke(0, 63, 6);
    for (int no : NO_GUESTS) {
      due("state(" + no + ")", x.state(no), -14);
      due("told(" + no + ", 19)", x.told(no, 19), 0);
      due("peek(" + no + ", 0)", x.peek(no, 0), 0);
      due("disk(" + no + ", 0)", x.disk(no, 0), 0);
      due("out(" + no + ", 0)", x.out(no, 0), 0);
      due("cached(" + no + ", 0)", x.cached(no, 0), -1);
    }
    for (int i : new int[] {-1, 24, 100, Integer.MIN_VALUE, Integer.MAX_VALUE}) {
      told(0, i, 0);
      due("out(0, " + i + ")", x.out(0, i), 0);
    }
    for (int i : new int[] {-1, 64, 4096, Integer.MIN_VALUE, Integer.MAX_VALUE}) {
      due("peek(0, " + i + ")", x.peek(0, i), 0);
    }
    for (int i : new int[] {-1, 1024, Integer.MIN_VALUE, Integer.MAX_VALUE}) {
      due("disk(0, " + i + ")", x.disk(0, i), 0);
    }
    for (int i : new int[] {-1, 256, Integer.MIN_VALUE, Integer.MAX_VALUE}) {
      due("cached(0, " + i + ")", x.cached(0, i), -1);
    }
    due("peek(0, 0)", x.peek(0, 0), 5);
    due("peek(0, 63)", x.peek(0, 63), 6);
    told(0, 19, 1);

    begin("promise 17, out: the first 1000 are kept, all are counted");
    int g = started(1, Code.add(1, 1, 1), Code.out(1, 0), Code.word(17, 2, 0, 0, -2));
    due("run(2000)", x.run(2000), 2000);
    due("run(1006)", x.run(1006), 1006);
    told(g, 21, 1002);
    due("out(0, 0)", x.out(g, 0), 1);
    due("out(0, 999)", x.out(g, 999), 1000);
    due("out(0, 1000)", x.out(g, 1000), 0);
    due("out(0, -1)", x.out(g, -1), 0);

    begin("promise 20, audit, with more frames than the host has");
    x.install(4, 7);
    for (int i = 0; i < 8; i++) {
      g = x.guest(20);
      for (int k = 0; k < 20; k++) {
        x.poke(g, 64 * k + i, 1000 * i + k);
      }
      due("audit", x.audit(), 0);
    }
    for (int i = 0; i < 8; i++) {
      for (int k = 0; k < 20; k++) {
        due("peek", x.peek(i, 64 * k + i), 1000 * i + k);
        due("peek", x.peek(i, 64 * k + 63 - i), 0);
      }
    }
    due("audit", x.audit(), 0);
    x.drop(3);
    x.copy(4);
    due("audit", x.audit(), 0);
    due("peek", x.peek(3, 64 * 19 + 4), 4019);
    allFramesWritten();
  }

  private void allFramesWritten() {
    begin("terms 6, room to put away all that eight guests of 64 frames can have");
    x.install(4, 7);
    for (int g = 0; g < 8; g++) {
      started(64, Code.set(1, g + 1), Code.write(2, 63, 1), Code.add(1, 1, 8),
          Code.add(2, 2, 64), Code.word(17, 3, 0, 0, -3));
    }
    due("run", x.run(2000), 2000);
    due("run", x.run(2000), 2000);
    for (int g = 0; g < 8; g++) {
      due("only", x.only(g, 1), 1);
      trapped(g, 5, 1, 64 * 64 + 63);
      for (int k = 0; k < 64; k++) {
        due("peek", x.peek(g, 64 * k + 63), 8 * k + g + 1);
        due("peek", x.peek(g, 64 * k + 62), 0);
      }
    }
    due("audit", x.audit(), 0);
  }

  // Terms 2 and 4.

  private void steps() {
    begin("terms 4, sums");
    int g = x.guest(1);
    sum(g, 0, Integer.MAX_VALUE, 1, Integer.MIN_VALUE);
    sum(g, 1, 3, 5, -2);
    sum(g, 2, 12, 10, 8);
    sum(g, 3, 12, 10, 14);
    sum(g, 4, 12, 10, 6);
    sum(g, 5, 65536, 65537, 65536);
    sum(g, 6, -1, 0, 1);
    sum(g, 6, 0, -1, 0);
    sum(g, 6, 4, 4, 0);
    sum(g, 7, 3, 33, 6);
    sum(g, 8, -1, 60, 15);
    sum(g, 8, -1, 0, -1);
    x.stop(g);
    code(g, 0, Code.add(1, 0, -65536), Code.high(2, 65535), Code.high(3, -1));
    x.start(g, 0);
    x.run(3);
    told(g, 1, -65536);
    told(g, 2, 65535 << 15);
    told(g, 3, -32768);
    control(g, Code.COUNT, 3);

    begin("terms 4, jumps");
    jump(Code.word(14, 0, 1, 2, 5), 5, 5, 7, 0);
    jump(Code.word(14, 0, 1, 2, 5), 5, 6, 3, 0);
    jump(Code.word(15, 0, 1, 2, -2), 5, 6, 0, 0);
    jump(Code.word(15, 0, 1, 2, -2), 5, 5, 3, 0);
    jump(Code.word(16, 0, 1, 2, 9), -5, 5, 11, 0);
    jump(Code.word(16, 0, 1, 2, 9), 5, 5, 3, 0);
    jump(Code.word(17, 3, 0, 0, 20), 0, 0, 22, 3);
    jump(Code.word(18, 3, 1, 0, -4), 30, 0, 26, 3);
    jump(Code.word(18, 1, 1, 0, 1), 30, 3, 31, 0);
    supervisorTraps();
    lines();
  }

  private void sum(int g, int op, int a, int b, int want) {
    x.stop(g);
    code(g, 0, Code.read(1, 0, 10), Code.read(2, 0, 11), Code.three(op, 3, 1, 2), Code.halt());
    code(g, 10, a, b);
    x.start(g, 0);
    due("run", x.run(4), 4);
    due("op " + op + " of " + a + " and " + b, x.told(g, 3), want);
  }

  private void jump(int word, int a, int b, int pc, int r3) {
    x.install(4, 10);
    int g = started(1, Code.set(1, a), Code.set(2, b), word);
    due("run", x.run(3), 3);
    told(g, 8, pc);
    told(g, 3, r3);
    control(g, Code.COUNT, 3);
  }

  private void supervisorTraps() {
    begin("terms 2, traps in MODE 1");
    int vector = 40;
    int[] words = {
      Code.call(-7), 30 << 26, 63 << 26, Code.getControl(1, 10), Code.getControl(1, -1),
      Code.setControl(9, 1), Code.setControl(-1, 1), Code.read(1, 0, 64), Code.write(0, -1, 1),
      Code.exchange(1, 0, 65535, 2)
    };
    int[] causes = {9, 2, 2, 2, 2, 2, 2, 5, 5, 5};
    for (int i = 0; i < words.length; i++) {
      x.install(4, 10);
      int g = started(1, Code.set(1, vector), Code.setControl(Code.VECTOR, 1), Code.set(1, 5),
          Code.setControl(Code.STATUS, 1), words[i]);
      due("run", x.run(5), 5);
      int bad = i == 0 ? -7 : i == 7 ? 64 : i == 8 ? -1 : i == 9 ? 65535 : words[i];
      trapped(g, causes[i], 4, bad);
      told(g, 8, vector);
      told(g, 1, 5);
      told(g, 23, 1);
      control(g, Code.STATUS, 6);
      control(g, Code.COUNT, 4);
    }
    begin("terms 2, a fetch from no memory");
    int g = started(1, Code.word(17, 0, 0, 0, 64));
    due("run", x.run(2), 2);
    trapped(g, 5, 64, 64);
    told(g, 8, 0);
    userTraps();
  }

  private void userTraps() {
    begin("terms 4, what MODE 0 may not");
    for (int op = 0; op < 64; op++) {
      int word = Code.word(op, 0, 0, 0, op == 21 || op == 22 ? 50 : 0);
      int cause = op == 19 ? 8 : op >= 20 && op <= 29 ? 3 : op >= 30 ? 2 : 0;
      x.install(4, 10);
      int g = started(1, Code.set(1, 20), Code.setControl(Code.EPC, 1), Code.back());
      x.stop(g);
      code(g, 20, word);
      x.start(g, 0);
      due("run", x.run(4), 4);
      due("op " + op + " ends in", x.told(g, 11), cause);
      told(g, 9, cause == 0 ? 0 : 1);
      told(g, 13, cause == 0 || op == 19 ? 0 : word);
      due("state", x.state(g), 1);
    }
    begin("terms 4, TIME in MODE 0");
    int g = started(1, Code.set(1, 20), Code.setControl(Code.EPC, 1), Code.set(2, 1024 | 2),
        Code.setControl(Code.STATUS, 2), Code.back());
    x.stop(g);
    code(g, 20, Code.time(3), Code.time(4));
    x.start(g, 0);
    due("run", x.run(7), 7);
    told(g, 3, 5);
    told(g, 4, 6);
    told(g, 9, 0);
    control(g, Code.STATUS, 1024 | 3);
  }

  private void lines() {
    begin("terms 2, lines");
    int[] set = {
      Code.set(1, 40), Code.setControl(Code.VECTOR, 1), Code.set(1, 7),
      Code.setControl(Code.TIMER, 1), Code.set(1, -1), Code.setControl(Code.STATUS, 1)
    };
    int g = started(1, set);
    x.input(g, 5);
    due("run", x.run(7), 7);
    control(g, Code.CAUSE, 17);
    control(g, Code.STATUS, 256 | 512 | 1024 | 6);
    control(g, Code.COUNT, 6);
    told(g, 8, 40);
    begin("terms 2, the timer's line is first");
    set[2] = Code.set(1, 6);
    g = started(1, set);
    x.input(g, 5);
    due("run", x.run(7), 7);
    trapped(g, 16, 6, 0);
    told(g, 23, 1);

    begin("terms 4, controls");
    g = started(3, Code.set(1, -1), Code.setControl(0, 1), Code.getControl(2, 0),
        Code.getControl(3, 9), Code.set(1, 70), Code.setControl(8, 1), Code.getControl(4, 8),
        Code.setControl(7, 1), Code.getControl(5, 7), Code.time(6));
    due("run", x.run(10), 10);
    told(g, 2, 0x707);
    told(g, 3, 3);
    told(g, 4, 71);
    told(g, 5, 70);
    told(g, 6, 74);
    control(g, Code.COUNT, 75);

    begin("terms 4, WAIT with a word that waits");
    g = started(1, Code.pause(), Code.halt());
    x.input(g, 0);
    due("run", x.run(9), 2);
    due("HALTED", x.state(g), 3);

    begin("terms 4, WAIT");
    g = started(1, Code.set(1, 50), Code.setControl(Code.TIMER, 1), Code.pause(), Code.pause(),
        Code.set(1, 0), Code.setControl(Code.TIMER, 1), Code.pause(), Code.halt());
    due("run", x.run(3), 3);
    control(g, Code.COUNT, 50);
    told(g, 8, 3);
    due("run", x.run(1), 1);
    control(g, Code.COUNT, 51);
    due("run", x.run(9), 3);
    due("WAITING", x.state(g), 2);
    control(g, Code.COUNT, 54);
    told(g, 8, 7);
    due("poke of one that waits", x.poke(g, 0, 0), -1);
    due("start of one that waits", x.start(g, 0), -1);
    x.input(g, 1);
    due("run", x.run(9), 1);
    due("HALTED", x.state(g), 3);
    control(g, Code.COUNT, 55);
    told(g, 8, 8);
  }

  // Terms 3, promise 18.

  /** Turns pages on with the table in frame 4 (of 9); page 0 must be in it. */
  private int paged(int entry0, int page, int entry, int... words) {
    x.install(4, 10);
    int g = started(9, Code.high(1, -65536), Code.add(1, 1, 4), Code.setControl(Code.ROOT, 1));
    x.stop(g);
    code(g, 3, words);
    code(g, 256, entry0);
    code(g, 256 + page, entry);
    x.start(g, 0);
    due("run", x.run(3), 3);
    control(g, Code.ROOT, PAGING | 4);
    return g;
  }

  private void pages() {
    begin("terms 3, pages");
    int all = PRESENT | W | U;
    int g = paged(all, 9, all | 5 << 8, Code.read(2, 0, 578), Code.write(0, 578, 1),
        Code.exchange(3, 0, 578, 0));
    due("run", x.run(1), 1);
    due("cached", x.cached(g, 0), 3);
    due("cached", x.cached(g, 9), 5 * 8 + 3);
    due("used", x.peek(g, 265), all | 5 << 8 | USED);
    due("run", x.run(1), 1);
    due("cached", x.cached(g, 9), 5 * 8 + 7);
    due("changed", x.peek(g, 265), all | 5 << 8 | USED | D);
    due("the word", x.peek(g, 322), PAGING | 4);
    due("run", x.run(1), 1);
    told(g, 3, PAGING | 4);
    due("the word", x.peek(g, 322), 0);

    refused(12, all, PRESENT ^ 1 | W, 576, Code.read(2, 0, 576), -1);
    refused(13, all, PRESENT ^ 1 | W, 576, Code.write(0, 576, 2), -1);
    refused(12, all, all | 9 << 8, 576, Code.read(2, 0, 576), -1);
    refused(13, all, PRESENT | U | 8 << 8, 639, Code.write(0, 639, 2), 8 * 8 + 2);
    refused(13, all, PRESENT | U | 8 << 8, 639, Code.exchange(0, 0, 639, 2), 8 * 8 + 2);
    refused(12, all, all, 16384, Code.read(2, 0, 16384), -1);
    refused(13, all, all, -1, Code.write(0, -1, 2), -1);
    refused(11, all, all, 577, 0, -1);
    exchangeOfTable();
    memoryOfTable();
    userPages();
    staleCache();
  }

  /** The word at 3 ends in a page trap; of page 9 the cache has CACHED then. */
  private void refused(int cause, int entry0, int entry, int bad, int word, int cached) {
    boolean fetch = cause == 11;
    int first = fetch ? Code.word(17, 0, 0, 0, 700 - 3) : word;
    int g = paged(entry0, 9, entry, first);
    due("run", x.run(fetch ? 2 : 1), fetch ? 2 : 1);
    trapped(g, cause, fetch ? 700 : 3, fetch ? 700 : bad);
    due("cached", x.cached(g, 9), cached);
    due("used", x.peek(g, 265), cached < 0 ? entry : entry | USED);
    told(g, 2, 0);
  }

  private void exchangeOfTable() {
    begin("terms 4, EXCHANGE of the table's own word");
    int own = PRESENT | W | 4 << 8;
    int g = paged(PRESENT, 9, own, Code.exchange(3, 0, 576 + 9, 2));
    due("run", x.run(1), 1);
    told(g, 3, own | USED | D);
    due("the word", x.peek(g, 265), 0);
    due("cached", x.cached(g, 9), 4 * 8 + 5);
  }

  private void memoryOfTable() {
    begin("terms 3, a table that is not in memory");
    int g = started(2, Code.high(1, -65536), Code.add(1, 1, 1), Code.setControl(Code.ROOT, 1),
        Code.read(2, 0, 64 * 64));
    x.stop(g);
    code(g, 64, PRESENT);
    code(g, 127, PRESENT | 1 << 8);
    x.start(g, 0);
    due("run", x.run(4), 4);
    trapped(g, 5, 3, 64 * 64);
    x.stop(g);
    code(g, 3, Code.read(2, 0, 64 * 63));
    x.start(g, 0);
    due("run", x.run(4), 4);
    control(g, Code.CAUSE, 0);
    told(g, 2, PRESENT | USED);
    due("cached", x.cached(g, 63), 8);
  }

  private void userPages() {
    begin("terms 3, MODE 0 and U");
    int g = paged(PRESENT | U, 9, PRESENT | W, Code.set(1, 5), Code.setControl(Code.EPC, 1),
        Code.read(2, 0, 578), Code.back());
    due("run", x.run(4), 4);
    control(g, Code.CAUSE, 0);
    control(g, Code.STATUS, 2);
    told(g, 9, 0);
    due("run", x.run(1), 1);
    trapped(g, 12, 5, 578);
    control(g, Code.STATUS, 0);
    g = paged(PRESENT, 9, PRESENT, Code.back());
    due("run", x.run(2), 2);
    trapped(g, 11, 0, 0);
    due("cached", x.cached(g, 0), 0);
  }

  private void staleCache() {
    begin("terms 3, the cache is not looked at again");
    int all = PRESENT | W | U;
    int g = paged(all, 9, all | 5 << 8, Code.read(2, 0, 576), Code.write(0, 640 + 9, 0),
        Code.read(2, 0, 577), Code.write(0, 578, 1), Code.set(4, 9 + 256), Code.forget(4),
        Code.read(2, 0, 577));
    x.stop(g);
    code(g, 266, PRESENT | W | 4 << 8);
    code(g, 321, 77);
    x.start(g, 0);
    due("run", x.run(5), 5);
    due("the table's word is gone", x.peek(g, 265), 0);
    due("run", x.run(1), 1);
    told(g, 2, 77);
    due("run", x.run(1), 1);
    due("D is told to the table as it is then", x.peek(g, 265), D);
    due("cached", x.cached(g, 9), 5 * 8 + 7);
    due("run", x.run(2), 2);
    due("forgotten", x.cached(g, 9), -1);
    due("the other page is not", x.cached(g, 10), 4 * 8 + 5);
    due("run", x.run(1), 1);
    trapped(g, 12, 9, 577);

    begin("terms 4, the cache is emptied");
    g = paged(all, 9, all | 5 << 8, Code.read(2, 0, 576), Code.emptyCache(),
        Code.setControl(Code.ROOT, 1));
    due("run", x.run(1), 1);
    due("cached", x.cached(g, 9), 5 * 8 + 3);
    due("run", x.run(1), 1);
    due("cached", x.cached(g, 9), -1);
    due("cached", x.cached(g, 0), -1);
    due("run", x.run(1), 1);
    due("ROOT empties it too", x.cached(g, 0), -1);
  }

  // Promises 5, 14, 16 and 17 lean on these instructions.

  private void devices() {
    begin("terms 4, IN and OUT");
    int g = started(2, Code.set(1, 33), Code.out(1, 0), Code.out(1, 1), Code.in(2, 2),
        Code.in(3, 3), Code.in(4, 1), Code.in(5, 0), Code.set(6, 5), Code.in(6, 4),
        Code.out(1, 3), Code.out(1, -1), Code.out(1, 2), Code.halt());
    x.input(g, 8);
    x.input(g, 9);
    due("run", x.run(20), 13);
    told(g, 2, 1);
    told(g, 3, 33);
    told(g, 4, 2);
    told(g, 5, 8);
    told(g, 6, 0);
    told(g, 20, 1);
    told(g, 21, 1);
    told(g, 22, 33);
    told(g, 23, 0);
    due("no disk was written", x.disk(g, 64), 0);

    begin("terms 4, the disk");
    x.install(4, 10);
    g = started(3, Code.set(1, 1), Code.out(1, 1), Code.set(2, 15 * 2 + 1 + 32),
        Code.out(2, 2), Code.set(1, 2), Code.out(1, 1), Code.set(2, 14 * 2), Code.out(2, 2),
        Code.halt());
    x.stop(g);
    code(g, 64, 640, 641);
    code(g, 127, 700);
    code(g, 128, 1, 2, 3);
    x.pokeDisk(g, 14 * 64 + 1, 900);
    x.pokeDisk(g, 15 * 64 + 2, 901);
    x.start(g, 0);
    due("copy", x.copy(g), 1);
    due("only", x.only(g, 20), 9);
    due("disk", x.disk(g, 960), 640);
    due("disk", x.disk(g, 961), 641);
    due("disk", x.disk(g, 962), 0);
    due("disk", x.disk(g, 1023), 700);
    due("peek", x.peek(g, 128), 0);
    due("peek", x.peek(g, 129), 900);
    due("peek", x.peek(g, 130), 0);
    due("the copy's frame stays", x.peek(1, 129), 2);
    due("the copy's disk stays", x.disk(1, 960), 0);
    due("audit", x.audit(), 0);

    begin("terms 4, the disk, to a frame that no other guest has");
    g = started(2, Code.set(1, 1), Code.out(1, 1), Code.write(0, 64, 1), Code.out(0, 2),
        Code.halt());
    x.stop(g);
    x.pokeDisk(g, 0, 50);
    x.start(g, 0);
    due("run", x.run(20), 5);
    due("peek", x.peek(g, 64), 50);
    due("the other frame stays", x.peek(g, 0), Code.set(1, 1));
    due("audit", x.audit(), 0);

    begin("terms 4, PLACE that is no frame");
    g = started(1, Code.set(1, 1), Code.out(1, 1), Code.out(1, 2), Code.set(2, 2),
        Code.out(2, 2), Code.set(1, -1), Code.out(1, 1), Code.out(1, 2), Code.out(2, 2),
        Code.halt());
    x.stop(g);
    x.pokeDisk(g, 0, 5);
    x.start(g, 0);
    due("run", x.run(20), 10);
    due("disk", x.disk(g, 0), 5);
    due("peek", x.peek(g, 0), Code.set(1, 1));
    told(g, 22, -1);
    told(g, 23, 0);
  }
}
