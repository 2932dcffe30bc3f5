/** The edges of promises 1 to 20: the numbers that a call takes, refuses, and in which order. */
public final class PromiseEdgesTest extends Bench {
  private static final String INSTALL =
      "A new house with h host frames (4 .. 256) and slices of so many steps (1 .. 1000): 0; -1"
      + " other numbers, and all stays.";
  private static final String GUEST = "first of these: -1 not 1 .. 64; -12 there are eight.";
  private static final String POKE =
      "first of these: -14 no such guest; -1 it is not STOPPED; -2 no such address.";
  private static final String POKE_DISK = "The same of word i (0 .. 1023) of its disk.";
  private static final String START =
      "A STOPPED guest is RUNNING from pc on: registers, controls 0 to 8, PLACE 0, MODE 1, the"
      + " cache empty (memory, disk, what came in and was put out stay): 0; -14; -1 it is not"
      + " STOPPED.";
  private static final String STOP =
      "A guest is STOPPED (also if it was), and all else of it as it is: 0; -14.";
  private static final String INPUT =
      "A word comes in for a guest, in whatever state; is it WAITING, it is RUNNING: 0; -14; -12"
      + " there are 64.";
  private static final String COPY =
      "A new guest that is in all as this one is: its number, the least that is free; -14; -12"
      + " there are eight.";
  private static final String RUN =
      "The house does at most n steps (0 .. 2000): how many were done; -1 for another n.";
  private static final String ONLY =
      "The guest does at most n steps (0 .. 2000), as long as it is RUNNING (current and LEFT stay"
      + " as they are): how many; -14 no such guest, else -1 for another n.";
  private static final String TOLD =
      "traps that it had since it was last started, or made (23); 0 for no such guest, or another"
      + " number. (A copy has its guest's number of traps.)";
  private static final String HOUSE =
      "steps of all since install(), by run() and only() (3); 0 for another number.";
  private static final int[] OTHER_COUNTS = {-1, 2001, MIN, MAX};

  public static void main(String[] args) {
    new PromiseEdgesTest().testSentences();
  }

  private void eightGuests() {
    for (int g = 0; g < 8; g++) {
      due("guest", x.guest(1), g);
    }
  }

  // Promises 1 and 2.

  @Sentence(in = "promise 1", says = "No guests; as install(8, 10).")
  void aNewObject() {
    same("house", allOfHouse(), new int[] {7, 0, 0, 0});
    for (int g = 0; g < 8; g++) {
      state(g, -14);
    }
    due("audit", x.audit(), 0);
    started(1, Code.loop());
    due("run(11)", x.run(11), 11);
    due("house(1)", x.house(1), 9);
  }

  @Sentence(in = "promise 2", says = INSTALL)
  void installOfOtherNumbers() {
    int[][] wrong = {
      {3, 10}, {257, 10}, {0, 10}, {-1, 10}, {MIN, 10}, {MAX, 10}, {-8, 10},
      {8, 0}, {8, 1001}, {8, -1}, {8, MIN}, {8, MAX}, {3, 0}, {257, 1001}
    };
    x.install(5, 4);
    int g = started(3, Code.out(1, 0), Code.go(-1));
    x.input(g, 9);
    due("run(6)", x.run(6), 6);
    int[] house = allOfHouse();
    int[] guest = allTold(g);
    for (int[] pair : wrong) {
      due("install(" + pair[0] + ", " + pair[1] + ")", x.install(pair[0], pair[1]), -1);
      same("house", allOfHouse(), house);
      same("the guest", allTold(g), guest);
      due("peek(1)", x.peek(g, 1), Code.go(-1));
    }
    due("run(3)", x.run(3), 3);
    due("the slice stays 4", x.house(1), 3);
    due("audit", x.audit(), 0);
  }

  @Sentence(in = "promise 2", says = INSTALL)
  void installOfTheLeastAndTheMost() {
    int[][] right = {{4, 1}, {256, 1000}, {4, 1000}, {256, 1}};
    for (int[] pair : right) {
      x.guest(1);
      due("install(" + pair[0] + ", " + pair[1] + ")", x.install(pair[0], pair[1]), 0);
      same("house", allOfHouse(), new int[] {7, 0, 0, 0});
      state(0, -14);
      started(1, Code.loop());
      due("run(1)", x.run(1), 1);
      due("house(1)", x.house(1), pair[1] - 1);
      due("audit", x.audit(), 0);
    }
  }

  @Sentence(in = "promise 2", says = INSTALL)
  void installForgetsAllGuests() {
    eightGuests();
    x.poke(7, 63, 5);
    due("install", x.install(4, 4), 0);
    for (int g = 0; g < 8; g++) {
      state(g, -14);
      due("drop", x.drop(g), -14);
    }
    eightGuests();
    due("peek", x.peek(7, 63), 0);
    due("audit", x.audit(), 0);
  }

  // Promise 3.

  @Sentence(in = "promise 3", says = GUEST)
  void guestsOfTooFewOrTooManyFrames() {
    for (int frames : new int[] {0, -1, 65, 128, MIN, MAX}) {
      due("guest(" + frames + ")", x.guest(frames), -1);
      due("house(2)", x.house(2), 0);
    }
    due("guest(1)", x.guest(1), 0);
    due("guest(64)", x.guest(64), 1);
  }

  @Sentence(in = "promise 3", says = GUEST)
  void theNinthGuest() {
    eightGuests();
    due("guest(1)", x.guest(1), -12);
    due("guest(64)", x.guest(64), -12);
    due("-1 comes first", x.guest(0), -1);
    due("-1 comes first", x.guest(65), -1);
    due("house(2)", x.house(2), 8);
  }

  @Sentence(in = "promise 3",
      says = "A new guest with so many frames, STOPPED: its number, the least that is free;")
  void theLeastNumberThatIsFree() {
    eightGuests();
    for (int g : new int[] {7, 0, 4}) {
      x.drop(g);
    }
    due("guest", x.guest(2), 0);
    due("guest", x.guest(2), 4);
    due("guest", x.guest(2), 7);
    state(7, STOPPED);
    told(7, 19, 2);
    told(6, 19, 1);
    due("guest", x.guest(2), -12);
  }

  // Promises 4 and 5.

  @Sentence(in = "promise 4", says = POKE)
  void pokeOfNoSuchGuest() {
    x.guest(1);
    started(1, Code.loop());
    for (int g : NO_GUESTS) {
      due("poke(" + g + ", 0, 5)", x.poke(g, 0, 5), -14);
      due("poke(" + g + ", -1, 5)", x.poke(g, -1, 5), -14);
    }
    due("poke(2, 64, 5)", x.poke(2, 64, 5), -14);
    x.drop(1);
    due("poke(1, 0, 5)", x.poke(1, 0, 5), -14);
    due("peek(0, 0)", x.peek(0, 0), 0);
  }

  @Sentence(in = "promise 4", says = POKE)
  void pokeOfOneThatIsNotStopped() {
    for (int s = RUNNING; s <= HALTED; s++) {
      int g = guestIn(s);
      due("poke in state " + s, x.poke(g, 5, 5), -1);
      due("-1 comes before -2", x.poke(g, 64, 5), -1);
      due("-1 comes before -2", x.poke(g, -1, 5), -1);
      due("peek(5)", x.peek(g, 5), 0);
      state(g, s);
      x.stop(g);
      due("poke of one that is STOPPED again", x.poke(g, 5, 5), 0);
      due("peek(5)", x.peek(g, 5), 5);
    }
  }

  @Sentence(in = "promise 4", says = POKE)
  void pokeOfNoSuchAddress() {
    int g = x.guest(2);
    for (int address : new int[] {128, 129, 4095, 4096, 16384, -1, -128, MIN, MAX}) {
      due("poke(" + address + ")", x.poke(g, address, 5), -2);
    }
    due("poke(127)", x.poke(g, 127, MIN), 0);
    due("poke(0)", x.poke(g, 0, MAX), 0);
    due("peek(127)", x.peek(g, 127), MIN);
    due("peek(0)", x.peek(g, 0), MAX);
    due("peek(1)", x.peek(g, 1), 0);
    due("poke(0) again", x.poke(g, 0, 0), 0);
    due("peek(0)", x.peek(g, 0), 0);
  }

  @Sentence(in = "promise 5", says = POKE_DISK)
  void pokeDiskOfNoSuchGuest() {
    x.guest(1);
    for (int g : NO_GUESTS) {
      due("pokeDisk(" + g + ", 0, 5)", x.pokeDisk(g, 0, 5), -14);
      due("pokeDisk(" + g + ", -1, 5)", x.pokeDisk(g, -1, 5), -14);
    }
    due("disk(0, 0)", x.disk(0, 0), 0);
  }

  @Sentence(in = "promise 5", says = POKE_DISK)
  void pokeDiskOfOneThatIsNotStopped() {
    for (int s = RUNNING; s <= HALTED; s++) {
      int g = guestIn(s);
      due("pokeDisk in state " + s, x.pokeDisk(g, 5, 5), -1);
      due("-1 comes before -2", x.pokeDisk(g, 1024, 5), -1);
      due("disk(5)", x.disk(g, 5), 0);
      x.stop(g);
      due("pokeDisk of one that is STOPPED again", x.pokeDisk(g, 5, 5), 0);
    }
  }

  @Sentence(in = "promise 5", says = POKE_DISK)
  void pokeDiskOfNoSuchWord() {
    int g = x.guest(64);
    for (int i : new int[] {1024, 1025, 4095, -1, -1024, MIN, MAX}) {
      due("pokeDisk(" + i + ")", x.pokeDisk(g, i, 5), -2);
    }
    due("pokeDisk(1023)", x.pokeDisk(g, 1023, MIN), 0);
    due("pokeDisk(0)", x.pokeDisk(g, 0, MAX), 0);
    due("disk(1023)", x.disk(g, 1023), MIN);
    due("disk(0)", x.disk(g, 0), MAX);
    due("disk(1)", x.disk(g, 1), 0);
    due("peek(0)", x.peek(g, 0), 0);
  }

  // Promises 6 and 7.

  @Sentence(in = "promise 6", says = START)
  void startOfNoSuchGuest() {
    x.guest(1);
    for (int g : NO_GUESTS) {
      due("start(" + g + ", 0)", x.start(g, 0), -14);
    }
    state(0, STOPPED);
  }

  @Sentence(in = "promise 6", says = START)
  void startOfOneThatIsNotStopped() {
    for (int s = RUNNING; s <= HALTED; s++) {
      int g = guestIn(s);
      int[] before = allTold(g);
      due("start in state " + s, x.start(g, 50), -1);
      same("the guest", allTold(g), before);
    }
  }

  @Sentence(in = "promise 6", says = START)
  void startFromAnyNumber() {
    for (int pc : new int[] {0, 63, 64, -1, MIN, MAX}) {
      anew();
      int g = x.guest(1);
      due("start(" + pc + ")", x.start(g, pc), 0);
      told(g, 8, pc);
      state(g, RUNNING);
      does(g, 1);
      told(g, 23, pc == 0 || pc == 63 ? 0 : 1);
    }
  }

  @Sentence(in = "promise 6", says = START)
  void startSetsBackAllButWhatStays() {
    int g = x.guest(9);
    code(g, 256, PRESENT | W | U);
    x.pokeDisk(g, 1023, 8);
    Program p = new Program();
    for (int n = 1; n <= 7; n++) {
      if (n != Code.ROOT) {
        p.control(n, -3);
      }
    }
    for (int d = 6; d >= 0; d--) {
      p.then(Code.set(d, 40 + d));
    }
    p.then(Code.out(1, 0), Code.out(1, 1)).countAndStatus(900, 0x706);
    p.control(Code.ROOT, PAGING | 4);
    ready(g, p, Code.call(1));
    x.input(g, 4);
    traps(g, 9, 1);
    x.stop(g);
    due("start", x.start(g, 6), 0);
    for (int i = 0; i < 24; i++) {
      told(g, i, i == 8 ? 6 : i == 9 ? 1 : i == 19 ? 9 : i == 20 || i == 21 ? 1 : 0);
    }
    for (int page = 0; page < 256; page++) {
      due("cached(" + page + ")", x.cached(g, page), -1);
    }
    due("memory stays", x.peek(g, 256), PRESENT | W | U | USED);
    due("the disk stays", x.disk(g, 1023), 8);
    due("what was put out stays", x.out(g, 0), 41);
  }

  @Sentence(in = "promise 6", says = START)
  void whatCameInWhileStoppedIsThere() {
    int g = x.guest(1);
    code(g, 0, Code.in(1, 0), Code.in(2, 1));
    x.input(g, 71);
    x.input(g, 72);
    due("start", x.start(g, 0), 0);
    does(g, 2);
    told(g, 1, 71);
    told(g, 2, 1);
  }

  @Sentence(in = "promise 7", says = STOP)
  void stopOfNoSuchGuest() {
    started(1, Code.loop());
    for (int g : NO_GUESTS) {
      due("stop(" + g + ")", x.stop(g), -14);
    }
    state(0, RUNNING);
  }

  @Sentence(in = "promise 7", says = STOP)
  void stopInEveryState() {
    for (int s = STOPPED; s <= HALTED; s++) {
      int g = guestIn(s);
      int[] before = allTold(g);
      due("stop in state " + s, x.stop(g), 0);
      before[24] = STOPPED;
      same("the guest", allTold(g), before);
      due("stop again", x.stop(g), 0);
      same("the guest", allTold(g), before);
      due("only", x.only(g, 5), 0);
    }
  }

  @Sentence(in = "promise 7", says = STOP)
  void stopLeavesTheCache() {
    int g = x.guest(9);
    code(g, 256, PRESENT | W | U);
    ready(g, new Program().control(Code.ROOT, PAGING | 4), Code.out(1, 0));
    does(g, 1);
    due("stop", x.stop(g), 0);
    due("cached(0)", x.cached(g, 0), 3);
    control(g, Code.ROOT, PAGING | 4);
    told(g, 9, 1);
    told(g, 21, 1);
  }

  // Promise 8.

  @Sentence(in = "promise 8", says = INPUT)
  void inputOfNoSuchGuest() {
    x.guest(1);
    for (int g : NO_GUESTS) {
      due("input(" + g + ", 1)", x.input(g, 1), -14);
    }
    told(0, 20, 0);
  }

  @Sentence(in = "promise 8", says = INPUT)
  void inputInEveryState() {
    for (int s = STOPPED; s <= HALTED; s++) {
      int g = guestIn(s);
      int[] before = allTold(g);
      due("input in state " + s, x.input(g, -5), 0);
      before[20] = 1;
      before[24] = s == WAITING ? RUNNING : s;
      same("the guest", allTold(g), before);
    }
  }

  @Sentence(in = "promise 8", says = INPUT)
  void inputWhere64Wait() {
    for (int s : new int[] {STOPPED, RUNNING, HALTED}) {
      anew();
      int g = guestIn(s);
      for (int i = 0; i < 64; i++) {
        due("input", x.input(g, i), 0);
      }
      int[] before = allTold(g);
      due("input of one more", x.input(g, 64), -12);
      due("input of no such guest", x.input(7, 64), -14);
      same("the guest", allTold(g), before);
      told(g, 20, 64);
    }
  }

  // Promises 9 and 10.

  @Sentence(in = "promise 9", says = COPY)
  void copyOfNoSuchGuest() {
    x.guest(1);
    for (int g : NO_GUESTS) {
      due("copy(" + g + ")", x.copy(g), -14);
    }
    due("house(2)", x.house(2), 1);
  }

  @Sentence(in = "promise 9", says = COPY)
  void copyWhereThereAreEight() {
    eightGuests();
    due("copy(0)", x.copy(0), -12);
    due("copy(7)", x.copy(7), -12);
    due("-14 comes first", x.copy(8), -14);
    due("-14 comes first", x.copy(-1), -14);
    x.drop(3);
    due("no such guest, and a free number", x.copy(3), -14);
    due("the least that is free", x.copy(7), 3);
    due("copy(0)", x.copy(0), -12);
  }

  @Sentence(in = "promise 9", says = COPY)
  void copyInEveryState() {
    for (int s = STOPPED; s <= HALTED; s++) {
      anew();
      int g = guestIn(s);
      due("copy in state " + s, x.copy(g), 1);
      same("the copy", allTold(1), allTold(0));
      state(1, s);
    }
  }

  @Sentence(in = "promise 9", says = COPY)
  void copyInAll() {
    int g = x.guest(9);
    code(g, 256, PRESENT | W | U);
    x.pokeDisk(g, 1023, 8);
    Program p = new Program();
    for (int n = 1; n <= 7; n++) {
      p.control(n, n == Code.ROOT ? 0 : 60 + n);
    }
    for (int d = 5; d >= 0; d--) {
      p.then(Code.set(d, 40 + d));
    }
    p.then(Code.in(6, 0), Code.out(1, 0), Code.out(1, 1)).countAndStatus(-7, 0x706);
    p.control(Code.ROOT, PAGING | 4);
    for (int i = 0; i < 64; i++) {
      x.input(g, 1000 + i);
    }
    ready(g, p, Code.call(1));
    x.input(g, 1064);
    traps(g, 9, 1);
    due("copy", x.copy(g), 1);
    same("the copy", allTold(1), allTold(0));
    told(1, 23, 1);
    told(1, 20, 64);
    for (int page = 0; page < 256; page += 51) {
      due("cached(" + page + ")", x.cached(1, page), x.cached(0, page));
    }
    due("cached(0)", x.cached(1, 0), 3);
    due("disk(1023)", x.disk(1, 1023), 8);
    due("out(0)", x.out(1, 0), 41);
    due("peek(256)", x.peek(1, 256), PRESENT | W | U | USED);
    due("it is full as well", x.input(1, 5), -12);
    due("audit", x.audit(), 0);
  }

  @Sentence(in = "promise 9", says = COPY)
  void neitherSeesTheOtherBehindACopy() {
    x.install(4, 10);
    int g = started(3, Code.add(1, 1, 1), Code.write(0, 130, 1), Code.out(1, 0), Code.in(2, 0),
        Code.out(1, 1), Code.set(3, 3), Code.out(3, 2), Code.go(-7));
    x.input(g, 5);
    x.input(g, 6);
    does(g, 7);
    due("copy", x.copy(g), 1);
    int[] first = allTold(0);
    does(1, 8);
    same("the first", allTold(0), first);
    due("peek of the first", x.peek(0, 130), 1);
    due("peek of the copy", x.peek(1, 130), 2);
    due("out of the first", x.out(0, 1), 0);
    due("out of the copy", x.out(1, 1), 2);
    due("disk of the first", x.disk(0, 64 + 2), 0);
    due("disk of the copy", x.disk(1, 64 + 2), 2);
    told(0, 20, 1);
    told(1, 20, 0);
    int[] copy = allTold(1);
    does(0, 16);
    same("the copy", allTold(1), copy);
    due("peek of the copy", x.peek(1, 130), 2);
    due("drop of the first", x.drop(0), 0);
    same("the copy", allTold(1), copy);
    due("peek of the copy", x.peek(1, 130), 2);
    due("audit", x.audit(), 0);
  }

  @Sentence(in = "promise 9", says = COPY)
  void copyHasTheWordsThatWaitInTheirOrder() {
    int g = started(1, Code.in(1, 0), Code.out(1, 0), Code.go(-2));
    for (int i = 0; i < 64; i++) {
      due("input", x.input(g, 100 + i), 0);
    }
    does(g, 3 * 40);
    for (int i = 0; i < 40; i++) {
      due("input", x.input(g, 164 + i), 0);
    }
    due("copy", x.copy(g), 1);
    does(1, 3 * 64);
    told(1, 20, 0);
    told(0, 20, 64);
    for (int i = 0; i < 104; i++) {
      due("out(" + i + ") of the copy", x.out(1, i), 100 + i);
    }
    does(0, 3 * 64);
    due("out(103) of the first", x.out(0, 103), 203);
  }

  @Sentence(in = "promise 9", says = COPY)
  void copyLeavesWhoseTurnItIs() {
    started(1, Code.loop());
    due("run(3)", x.run(3), 3);
    due("copy", x.copy(0), 1);
    same("house", allOfHouse(), new int[] {0, 7, 2, 3});
  }

  @Sentence(in = "promise 10", says = "The guest is no more: 0; -14.")
  void dropOfNoSuchGuest() {
    x.guest(1);
    for (int g : NO_GUESTS) {
      due("drop(" + g + ")", x.drop(g), -14);
    }
    due("house(2)", x.house(2), 1);
    due("drop(0)", x.drop(0), 0);
    due("drop(0) again", x.drop(0), -14);
    due("house(2)", x.house(2), 0);
  }

  @Sentence(in = "promise 10", says = "The guest is no more: 0; -14.")
  void dropInEveryState() {
    for (int s = STOPPED; s <= HALTED; s++) {
      int g = guestIn(s);
      due("drop in state " + s, x.drop(g), 0);
      state(g, -14);
      due("start", x.start(g, 0), -14);
      due("stop", x.stop(g), -14);
      due("input", x.input(g, 0), -14);
      due("only", x.only(g, 0), -14);
      due("copy", x.copy(g), -14);
      told(g, 19, 0);
      due("run", x.run(5), 0);
      due("audit", x.audit(), 0);
    }
  }

  // Promises 11 and 12.

  @Sentence(in = "promise 11", says = RUN)
  void runOfAnotherNumber() {
    started(1, Code.loop());
    due("run(3)", x.run(3), 3);
    int[] house = allOfHouse();
    int[] guest = allTold(0);
    for (int n : OTHER_COUNTS) {
      due("run(" + n + ")", x.run(n), -1);
      same("house", allOfHouse(), house);
      same("the guest", allTold(0), guest);
    }
    anew();
    due("without guests", x.run(-1), -1);
    due("without guests", x.run(2001), -1);
  }

  @Sentence(in = "promise 11", says = RUN)
  void runOfTheLeastAndTheMost() {
    started(1, Code.loop());
    due("run(0)", x.run(0), 0);
    same("house", allOfHouse(), new int[] {7, 0, 1, 0});
    due("run(1)", x.run(1), 1);
    due("run(2000)", x.run(2000), 2000);
    due("house(3)", x.house(3), 2001);
    control(0, Code.COUNT, 2001);
  }

  @Sentence(in = "promise 11", says = RUN)
  void runEndsWhenNoneRuns() {
    started(1, Code.set(1, 1), Code.set(1, 2), Code.halt());
    started(1, Code.set(1, 1), Code.pause());
    due("run(2000)", x.run(2000), 5);
    due("run(2000)", x.run(2000), 0);
    due("house(3)", x.house(3), 5);
  }

  @Sentence(in = "promise 12", says = ONLY)
  void onlyOfNoSuchGuest() {
    started(1, Code.loop());
    for (int g : NO_GUESTS) {
      due("only(" + g + ", 1)", x.only(g, 1), -14);
      due("-14 comes first", x.only(g, -1), -14);
      due("-14 comes first", x.only(g, 2001), -14);
    }
    due("house(3)", x.house(3), 0);
  }

  @Sentence(in = "promise 12", says = ONLY)
  void onlyOfAnotherNumber() {
    for (int s = STOPPED; s <= HALTED; s++) {
      anew();
      int g = guestIn(s);
      int[] before = allTold(g);
      for (int n : OTHER_COUNTS) {
        due("only in state " + s, x.only(g, n), -1);
        same("the guest", allTold(g), before);
      }
    }
  }

  @Sentence(in = "promise 12", says = ONLY)
  void onlyOfTheLeastAndTheMost() {
    int g = started(1, Code.loop());
    due("only(0)", x.only(g, 0), 0);
    due("only(2000)", x.only(g, 2000), 2000);
    control(g, Code.COUNT, 2000);
    due("house(3)", x.house(3), 2000);
  }

  @Sentence(in = "promise 12", says = ONLY)
  void onlyAsLongAsItRuns() {
    int g = started(1, Code.set(1, 1), Code.pause(), Code.halt());
    due("only(9)", x.only(g, 9), 2);
    state(g, WAITING);
    due("only(9)", x.only(g, 9), 0);
    x.input(g, 1);
    due("only(9)", x.only(g, 9), 1);
    state(g, HALTED);
    due("only(9)", x.only(g, 9), 0);
    due("house(3)", x.house(3), 3);
    int other = x.guest(1);
    due("only of one that is STOPPED", x.only(other, 9), 0);
  }

  @Sentence(in = "promise 12", says = ONLY)
  void onlyLeavesCurrentAndLeft() {
    x.install(4, 5);
    started(1, Code.loop());
    started(1, Code.loop());
    does(1, 3);
    same("house", allOfHouse(), new int[] {7, 0, 2, 3});
    due("run(7)", x.run(7), 7);
    same("house", allOfHouse(), new int[] {1, 3, 2, 10});
    does(0, 20);
    does(1, 20);
    same("house", allOfHouse(), new int[] {1, 3, 2, 50});
    due("run(1)", x.run(1), 1);
    same("house", allOfHouse(), new int[] {1, 2, 2, 51});
  }

  // Promises 13 to 20.

  @Sentence(in = "promise 13",
      says = "0 STOPPED, 1 RUNNING, 2 WAITING, 3 HALTED; -14 no such guest.")
  void stateOfNoSuchGuest() {
    for (int s = STOPPED; s <= HALTED; s++) {
      due("state", x.state(guestIn(s)), s);
    }
    for (int g : NO_GUESTS) {
      state(g, -14);
    }
    state(4, -14);
    x.drop(2);
    state(2, -14);
    state(3, HALTED);
  }

  @Sentence(in = "promise 14", says = TOLD)
  void toldOfAnotherNumber() {
    int g = x.guest(64);
    ready(g, new Program().then(Code.set(0, 5), Code.set(1, 6)), Code.call(1));
    x.input(g, 3);
    traps(g, 9, 1);
    for (int what : new int[] {-1, 24, 25, 32, 256, MIN, MAX, MIN + 19}) {
      told(g, what, 0);
    }
    told(g, 0, 5);
    told(g, 19, 64);
    told(g, 20, 1);
    told(g, 23, 1);
  }

  @Sentence(in = "promise 14", says = TOLD)
  void toldOfNoSuchGuest() {
    x.guest(64);
    for (int g : NO_GUESTS) {
      for (int what = -1; what <= 24; what++) {
        told(g, what, 0);
      }
    }
    x.drop(0);
    told(0, 19, 0);
  }

  @Sentence(in = "promise 14", says = TOLD)
  void trapsSinceStartOrMade() {
    int g = started(1, Code.call(1));
    does(g, 7);
    told(g, 23, 7);
    x.stop(g);
    told(g, 23, 7);
    due("copy", x.copy(g), 1);
    told(1, 23, 7);
    x.start(g, 0);
    told(g, 23, 0);
    told(1, 23, 7);
    does(g, 2);
    told(g, 23, 2);
    x.drop(g);
    due("guest", x.guest(1), 0);
    told(0, 23, 0);
  }

  @Sentence(in = "promise 15",
      says = "The word at an address of its memory; 0 if there is none.")
  void peekWhereNothingIs() {
    x.guest(1);
    x.guest(64);
    x.poke(0, 63, 5);
    x.poke(1, 64, 6);
    x.poke(1, 4095, 7);
    due("peek(0, 63)", x.peek(0, 63), 5);
    due("peek(1, 4095)", x.peek(1, 4095), 7);
    for (int address : new int[] {64, 127, 4095, 4096, -1, -64, MIN, MIN + 63, MAX}) {
      due("peek(0, " + address + ")", x.peek(0, address), 0);
    }
    due("peek(1, 4096)", x.peek(1, 4096), 0);
    due("peek(1, 4159)", x.peek(1, 4159), 0);
    for (int g : NO_GUESTS) {
      due("peek(" + g + ", 63)", x.peek(g, 63), 0);
    }
    x.drop(0);
    due("peek(0, 63)", x.peek(0, 63), 0);
  }

  @Sentence(in = "promise 15",
      says = "The word at an address of its memory; 0 if there is none.")
  void peekInEveryState() {
    for (int s = RUNNING; s <= HALTED; s++) {
      int g = guestIn(s);
      int want = s == WAITING ? Code.pause() : s == HALTED ? Code.halt() : Code.loop();
      due("peek in state " + s, x.peek(g, 0), want);
    }
  }

  @Sentence(in = "promise 16", says = "Word i of its disk; 0 if there is none.")
  void diskWhereNothingIs() {
    x.guest(1);
    x.pokeDisk(0, 0, 5);
    x.pokeDisk(0, 1023, 6);
    due("disk(0, 0)", x.disk(0, 0), 5);
    due("disk(0, 1023)", x.disk(0, 1023), 6);
    for (int i : new int[] {1024, 2047, -1, -1024, MIN, MIN + 1023, MAX}) {
      due("disk(0, " + i + ")", x.disk(0, i), 0);
    }
    for (int g : NO_GUESTS) {
      due("disk(" + g + ", 0)", x.disk(g, 0), 0);
    }
    x.start(0, 0);
    due("disk of one that is RUNNING", x.disk(0, 1023), 6);
    x.drop(0);
    due("disk(0, 0)", x.disk(0, 0), 0);
  }

  @Sentence(in = "promise 17",
      says = "Word i that it put out (the first 1000 are kept); 0 if there is none.")
  void outWhereNothingIs() {
    int g = started(1, Code.add(1, 1, 1), Code.out(1, 0), Code.go(-2));
    due("out(0)", x.out(g, 0), 0);
    does(g, 5);
    due("out(0)", x.out(g, 0), 1);
    due("out(1)", x.out(g, 1), 2);
    for (int i : new int[] {2, 999, 1000, -1, MIN, MAX}) {
      due("out(" + i + ")", x.out(g, i), 0);
    }
    for (int no : NO_GUESTS) {
      due("out(" + no + ", 0)", x.out(no, 0), 0);
    }
    x.drop(g);
    due("out(0)", x.out(g, 0), 0);
    due("guest", x.guest(1), g);
    due("out(0) of a new guest", x.out(g, 0), 0);
  }

  @Sentence(in = "promise 17",
      says = "Word i that it put out (the first 1000 are kept); 0 if there is none.")
  void outBeyondThoseKept() {
    int g = started(1, Code.add(1, 1, 1), Code.out(1, 0), Code.go(-2));
    does(g, 2000);
    does(g, 2000);
    told(g, 21, 1333);
    due("out(999)", x.out(g, 999), 1000);
    for (int i : new int[] {1000, 1001, 1332, 1333, 2000, -1, MIN, MAX}) {
      due("out(" + i + ")", x.out(g, i), 0);
    }
  }

  @Sentence(in = "promise 18", says = "-1 nothing, or no such guest or page.")
  void cachedOfNoSuchPage() {
    int g = x.guest(9);
    code(g, 256, PRESENT | W | U | D);
    x.poke(g, 511, PRESENT | 8 << 8);
    ready(g, new Program().control(Code.ROOT, PAGING | 4), Code.read(1, 0, 16383));
    goesOn(g);
    due("cached(0)", x.cached(g, 0), 7);
    due("cached(255)", x.cached(g, 255), 64);
    for (int page : new int[] {1, 254, 256, 511, -1, -256, MIN, MIN + 255, MAX}) {
      due("cached(" + page + ")", x.cached(g, page), -1);
    }
    for (int no : NO_GUESTS) {
      due("cached(" + no + ", 0)", x.cached(no, 0), -1);
    }
    x.drop(g);
    due("cached(0)", x.cached(g, 0), -1);
  }

  @Sentence(in = "promise 19", says = HOUSE)
  void houseOfAnotherNumber() {
    started(1, Code.loop());
    started(1, Code.loop());
    due("run(13)", x.run(13), 13);
    same("house", allOfHouse(), new int[] {1, 7, 2, 13});
    for (int what : new int[] {-1, 4, 5, 256, MIN, MAX, MIN + 2}) {
      due("house(" + what + ")", x.house(what), 0);
    }
  }

  @Sentence(in = "promise 19", says = HOUSE)
  void stepsOfAll() {
    started(1, Code.loop());
    due("run(13)", x.run(13), 13);
    does(0, 4);
    due("run(2001)", x.run(2001), -1);
    due("only(0, -1)", x.only(0, -1), -1);
    due("house(3)", x.house(3), 17);
    x.drop(0);
    due("house(3)", x.house(3), 17);
    due("install(0, 0)", x.install(0, 0), -1);
    due("house(3)", x.house(3), 17);
    due("install(4, 4)", x.install(4, 4), 0);
    due("house(3)", x.house(3), 0);
  }

  @Sentence(in = "promise 20",
      says = "How much in the host's memory and tables is not as it must be: 0 in a right system.")
  void auditIsZero() {
    due("of a new house", x.audit(), 0);
    x.install(4, 3);
    due("of an empty house", x.audit(), 0);
    int[] words = {Code.add(1, 1, 67), Code.write(1, 9, 1), Code.set(2, 5), Code.out(2, 2),
        Code.go(-4)};
    for (int g = 0; g < 4; g++) {
      due("guest", started(16, words), g);
      due("run", x.run(20), 20);
      due("audit", x.audit(), 0);
    }
    for (int i = 0; i < 30; i++) {
      x.copy(i % 5);
      due("run", x.run(50), 50);
      x.peek(i % 8, 64 * (i % 16));
      if (i % 3 == 2) {
        x.drop((i + 1) % 8);
      }
      due("audit", x.audit(), 0);
    }
    for (int g = 0; g < 8; g++) {
      x.drop(g);
      due("audit", x.audit(), 0);
    }
    x.install(256, 3);
    due("of a house anew", x.audit(), 0);
  }
}
