import java.lang.reflect.InvocationTargetException;
import java.lang.reflect.Method;
import java.util.Arrays;

/** What the tests by hand share: a house, guests brought to where a test begins, and checks. */
abstract class Bench {
  static final int MIN = Integer.MIN_VALUE;
  static final int MAX = Integer.MAX_VALUE;
  static final int PAGING = MIN;
  static final int PRESENT = 1;
  static final int W = 2;
  static final int U = 4;
  static final int USED = 8;
  static final int D = 16;
  static final int ON = 1;
  static final int ON_BEFORE = 2;
  static final int MODE_BEFORE = 4;
  static final int FOR_TIMER = 256;
  static final int FOR_ARRIVALS = 512;
  static final int FOR_TIME = 1024;
  static final int STOPPED = 0;
  static final int RUNNING = 1;
  static final int WAITING = 2;
  static final int HALTED = 3;
  /** Guest 7 is one of these in tests that make fewer than eight. */
  static final int[] NO_GUESTS = {-1, 8, 7, MIN, MAX};

  final Checks checks = new Checks();
  GuestHouse x = new GuestHouse();
  private String part = "";

  /** Does each test of this class that bears a sentence, with a house of its own. */
  final void testSentences() {
    Method[] methods = getClass().getDeclaredMethods();
    int done = 0;
    for (Method m : methods) {
      Sentence sentence = m.getAnnotation(Sentence.class);
      if (sentence != null) {
        begin(sentence.in() + ", '" + sentence.says() + "' (" + m.getName() + ")");
        testOne(m);
        done++;
      }
    }
    System.out.println(done + " tests of sentences");
    if (done == 0) {
      checks.fail("no test bears a sentence");
    }
    checks.end();
  }

  private void testOne(Method m) {
    try {
      m.invoke(this);
    } catch (InvocationTargetException e) {
      checks.fail(part + ": ended in " + e.getCause());
    } catch (IllegalAccessException e) {
      checks.fail(part + ": can't be called");
    }
  }

  final void begin(String name) {
    part = name;
    x = new GuestHouse();
  }

  final void anew() {
    x = new GuestHouse();
  }

  final void due(String what, int got, int want) {
    checks.due(part + ": " + what, got, want);
  }

  final void code(int g, int at, int... words) {
    for (int i = 0; i < words.length; i++) {
      due("poke(" + g + ", " + (at + i) + ")", x.poke(g, at + i, words[i]), 0);
    }
  }

  /** A new guest that runs the words from address 0 on. */
  final int started(int frames, int... words) {
    int g = x.guest(frames);
    code(g, 0, words);
    due("start", x.start(g, 0), 0);
    return g;
  }

  /** The guest has done the program, which is at address 0, and is before the words behind it. */
  final int ready(int g, Program p, int... behind) {
    code(g, 0, p.words());
    code(g, p.size(), behind);
    due("start", x.start(g, 0), 0);
    does(g, p.size());
    told(g, 8, p.size());
    told(g, 23, 0);
    return p.size();
  }

  final void does(int g, int n) {
    due("only(" + g + ", " + n + ")", x.only(g, n), n);
  }

  final void told(int g, int what, int want) {
    due("told(" + g + ", " + what + ")", x.told(g, what), want);
  }

  final void control(int g, int n, int want) {
    told(g, 10 + n, want);
  }

  final void state(int g, int want) {
    due("state(" + g + ")", x.state(g), want);
  }

  final void trapped(int g, int cause, int epc, int bad) {
    control(g, Code.CAUSE, cause);
    control(g, Code.EPC, epc);
    control(g, Code.BAD, bad);
    told(g, 9, 1);
  }

  /** The next step ends in this trap, the first that the guest has. */
  final void traps(int g, int cause, int bad) {
    int pc = x.told(g, 8);
    int count = x.told(g, 18);
    does(g, 1);
    trapped(g, cause, pc, bad);
    told(g, 23, 1);
    told(g, 8, x.told(g, 14));
    control(g, Code.COUNT, count);
  }

  /** The next step ends in no trap, and goes on at the next word. */
  final void goesOn(int g) {
    int pc = x.told(g, 8);
    int count = x.told(g, 18);
    int had = x.told(g, 23);
    does(g, 1);
    told(g, 23, had);
    told(g, 8, pc + 1);
    control(g, Code.COUNT, count + 1);
  }

  /** What r3 is behind the word, with these numbers in r1 and r2. */
  final void value(int word, int a, int b, int want) {
    anew();
    int g = x.guest(1);
    ready(g, new Program().load(1, a).load(2, b), word);
    goesOn(g);
    due("op " + (word >>> 26) + " of " + a + " and " + b, x.told(g, 3), want);
  }

  /** All that is told of a guest but memory, disk, cache and the words put out. */
  final int[] allTold(int g) {
    int[] all = new int[25];
    for (int i = 0; i < 24; i++) {
      all[i] = x.told(g, i);
    }
    all[24] = x.state(g);
    return all;
  }

  final int[] allOfHouse() {
    return new int[] {x.house(0), x.house(1), x.house(2), x.house(3)};
  }

  final void same(String what, int[] got, int[] want) {
    if (!Arrays.equals(got, want)) {
      checks.fail(part + ": " + what + " is " + Arrays.toString(got) + ", due is "
          + Arrays.toString(want));
    }
  }

  /** A guest of one frame in that state, which has come there by steps of its own. */
  final int guestIn(int state) {
    if (state == STOPPED) {
      return x.guest(1);
    }
    int last = state == WAITING ? Code.pause() : state == HALTED ? Code.halt() : Code.loop();
    int g = started(1, last);
    does(g, 1);
    state(g, state);
    return g;
  }
}
