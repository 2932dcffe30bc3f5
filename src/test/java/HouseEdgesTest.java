import java.util.ArrayList;
import java.util.List;

/** The edges of 'Terms', points 5 and 6: whose turn it is, and that h is told by nothing. */
public final class HouseEdgesTest extends Bench {
  private static final String NEXT =
      "is LEFT 0, or the current guest none or not RUNNING, then the next one by number that is"
      + " RUNNING (behind 7 comes 0; the current one itself last) is current, and LEFT is the"
      + " slice";
  private static final String NONE_RUNS = "is there none, no step is done.";
  private static final String ONE_LESS =
      "Then the current guest does a step, and LEFT is 1 less.";
  private static final String NUMBERS_ALONE =
      "(Numbers alone count: a new guest may have that of one that was dropped.)";
  private static final String NOT_H = "Nothing that is told here depends on h.";

  public static void main(String[] args) {
    new HouseEdgesTest().testSentences();
  }

  private void turn(int current, int left) {
    due("house(0)", x.house(0), current);
    due("house(1)", x.house(1), left);
  }

  private void runs(int n) {
    due("run(" + n + ")", x.run(n), n);
  }

  /** Guests that only loop, as many as told. */
  private void loops(int many) {
    for (int g = 0; g < many; g++) {
      due("guest", started(1, Code.loop()), g);
    }
  }

  // Point 5.

  @Sentence(in = "terms 5", says = "THE HOUSE has the guests 0 to 7, or fewer")
  void eightGuests() {
    for (int g = 0; g < 8; g++) {
      due("house(2)", x.house(2), g);
      due("guest", x.guest(1), g);
    }
    due("house(2)", x.house(2), 8);
    due("a ninth", x.guest(1), -12);
    due("house(2)", x.house(2), 8);
  }

  @Sentence(in = "terms 5",
      says = "a CURRENT guest, and a LEFT of its slice: 7 and 0 at first.")
  void zeroIsTheFirstOfEight() {
    x.install(4, 3);
    turn(7, 0);
    loops(8);
    turn(7, 0);
    runs(1);
    turn(0, 2);
  }

  @Sentence(in = "terms 5",
      says = "a CURRENT guest, and a LEFT of its slice: 7 and 0 at first.")
  void sevenAndZeroAgainBehindInstall() {
    loops(2);
    runs(13);
    turn(1, 7);
    x.install(4, 3);
    turn(7, 0);
  }

  @Sentence(in = "terms 5", says = NEXT)
  void leftIsZero() {
    x.install(4, 3);
    loops(2);
    runs(3);
    turn(0, 0);
    runs(1);
    turn(1, 2);
    runs(2);
    turn(1, 0);
    runs(1);
    turn(0, 2);
    told(0, 18, 4);
    told(1, 18, 3);
  }

  @Sentence(in = "terms 5", says = NEXT)
  void theCurrentGuestIsNone() {
    x.install(4, 5);
    loops(3);
    runs(7);
    turn(1, 3);
    x.drop(1);
    turn(1, 3);
    runs(1);
    turn(2, 4);
  }

  @Sentence(in = "terms 5", says = NEXT)
  void theCurrentGuestIsStopped() {
    x.install(4, 5);
    loops(3);
    runs(2);
    turn(0, 3);
    x.stop(0);
    runs(1);
    turn(1, 4);
  }

  @Sentence(in = "terms 5", says = NEXT)
  void theCurrentGuestHaltsOrWaits() {
    for (int word : new int[] {Code.halt(), Code.pause()}) {
      anew();
      x.install(4, 5);
      started(1, Code.set(1, 1), word);
      started(1, Code.loop());
      runs(2);
      turn(0, 3);
      runs(1);
      turn(1, 4);
      runs(5);
      turn(1, 4);
      told(1, 18, 6);
    }
  }

  @Sentence(in = "terms 5", says = NEXT)
  void behindSevenComesZero() {
    x.install(4, 2);
    loops(8);
    runs(16);
    turn(7, 0);
    runs(1);
    turn(0, 1);
    for (int g = 0; g < 8; g++) {
      told(g, 18, g == 0 ? 3 : 2);
    }
  }

  @Sentence(in = "terms 5", says = NEXT)
  void numbersThatDoNotRunArePassedBy() {
    x.install(4, 2);
    loops(8);
    x.stop(0);
    x.drop(2);
    x.stop(3);
    x.drop(7);
    runs(1);
    turn(1, 1);
    runs(2);
    turn(4, 1);
    runs(4);
    turn(6, 1);
    runs(2);
    turn(1, 1);
  }

  @Sentence(in = "terms 5", says = NEXT)
  void theCurrentOneItselfLast() {
    x.install(4, 2);
    loops(2);
    x.stop(1);
    runs(2);
    turn(0, 0);
    runs(1);
    turn(0, 1);
    runs(1);
    x.start(1, 0);
    runs(1);
    turn(1, 1);
  }

  @Sentence(in = "terms 5", says = NEXT)
  void sevenAloneFromTheFirst() {
    x.install(4, 2);
    loops(8);
    for (int g = 0; g < 7; g++) {
      x.drop(g);
    }
    turn(7, 0);
    runs(1);
    turn(7, 1);
    runs(4);
    turn(7, 1);
    told(7, 18, 5);
  }

  @Sentence(in = "terms 5", says = NEXT)
  void theShortestAndTheLongestSlice() {
    x.install(4, 1);
    loops(3);
    for (int i = 0; i < 7; i++) {
      runs(1);
      turn(i % 3, 0);
    }
    x.install(4, 1000);
    loops(2);
    runs(1);
    turn(0, 999);
    runs(999);
    turn(0, 0);
    runs(1);
    turn(1, 999);
    runs(1000);
    turn(0, 999);
  }

  @Sentence(in = "terms 5", says = NONE_RUNS)
  void aHouseWithoutGuests() {
    due("run(9)", x.run(9), 0);
    turn(7, 0);
    due("house(3)", x.house(3), 0);
  }

  @Sentence(in = "terms 5", says = NONE_RUNS)
  void noneRunsAnyMore() {
    x.install(4, 5);
    started(1, Code.set(1, 1), Code.halt());
    started(1, Code.pause());
    x.guest(1);
    due("run(9)", x.run(9), 3);
    turn(1, 4);
    due("run(9)", x.run(9), 0);
    turn(1, 4);
    due("house(3)", x.house(3), 3);
    x.drop(1);
    due("run(9)", x.run(9), 0);
    turn(1, 4);
  }

  @Sentence(in = "terms 5", says = NONE_RUNS)
  void noneRunsWhereASliceEnds() {
    x.install(4, 2);
    loops(1);
    runs(2);
    x.stop(0);
    due("run(9)", x.run(9), 0);
    turn(0, 0);
  }

  @Sentence(in = "terms 5", says = ONE_LESS)
  void leftIsOneLessBehindATrap() {
    x.install(4, 5);
    started(1, Code.call(1), Code.call(2));
    runs(1);
    turn(0, 4);
    runs(3);
    turn(0, 1);
    told(0, 23, 4);
    due("house(3)", x.house(3), 4);
  }

  @Sentence(in = "terms 5", says = ONE_LESS)
  void leftGoesOnInAGuestThatRunsAgain() {
    x.install(4, 5);
    loops(2);
    runs(2);
    turn(0, 3);
    x.stop(0);
    x.start(0, 0);
    runs(1);
    turn(0, 2);
    anew();
    x.install(4, 5);
    started(1, Code.pause(), Code.loop());
    started(1, Code.loop());
    runs(1);
    turn(0, 4);
    x.input(0, 1);
    runs(1);
    turn(0, 3);
  }

  @Sentence(in = "terms 5", says = NUMBERS_ALONE)
  void aNewGuestGoesOnInASlice() {
    x.install(4, 5);
    loops(3);
    runs(7);
    turn(1, 3);
    x.drop(1);
    due("guest", started(2, Code.loop()), 1);
    turn(1, 3);
    runs(1);
    turn(1, 2);
    told(1, 18, 1);
    x.drop(1);
    due("copy", x.copy(2), 1);
    runs(1);
    turn(1, 1);
  }

  // Point 6.

  @Sentence(in = "terms 6", says = "room to put away all that guests have")
  void allFramesOfAllGuestsAreWritten() {
    for (int h : new int[] {4, 5, 256}) {
      anew();
      x.install(h, 7);
      for (int g = 0; g < 8; g++) {
        writesAndSums(g);
      }
      for (int i = 0; i < 4; i++) {
        due("run", x.run(1000), 1000);
      }
      due("run", x.run(2000), 8 * 2 + 8 * 64 * 8 + 8 * 2 - 4000);
      for (int g = 0; g < 8; g++) {
        state(g, HALTED);
        due("the sum of guest " + g, x.out(g, 0), 64 * (g + 1) * 1000 + 63 * 64 / 2);
        told(g, 23, 0);
      }
      due("audit", x.audit(), 0);
    }
  }

  /** Writes each frame's last word but one, then reads all of these and puts out their sum. */
  private void writesAndSums(int g) {
    due("guest", started(64, Code.set(1, 1000 * (g + 1)), Code.set(3, 4096),
        Code.write(2, 62, 1), Code.add(1, 1, 1), Code.add(2, 2, 64), Code.word(16, 0, 2, 3, -3),
        Code.add(3, 3, -64), Code.read(4, 3, 62), Code.three(0, 5, 5, 4),
        Code.word(16, 0, 0, 3, -3), Code.out(5, 0), Code.halt()), g);
  }

  /** Calls that need many frames, share them and part them again; all that they answer. */
  private List<Integer> answers(int h) {
    anew();
    List<Integer> all = new ArrayList<>();
    all.add(x.install(h, 13));
    int g = x.guest(30);
    // Each round through memory ends in a trap; its vector begins the next one elsewhere.
    int[] words = new Program().control(Code.VECTOR, 7).then(Code.set(3, 7), Code.out(3, 1),
        Code.set(5, 31), Code.set(6, 63), Code.three(2, 1, 4, 6), Code.add(1, 1, 67),
        Code.write(1, 20, 1), Code.exchange(2, 1, 9, 1), Code.three(0, 4, 4, 2), Code.out(5, 2),
        Code.out(4, 0), Code.go(-6)).words();
    code(g, 0, words);
    all.add(x.start(g, 0));
    for (int i = 0; i < 20; i++) {
      all.add(x.run(397));
      all.add(x.copy(i % 3));
      all.add(x.only(i % 8, 40));
      if (i % 4 == 3) {
        all.add(x.drop(i / 4));
      }
      all.add(x.told(i % 8, 4));
      all.add(x.told(i % 8, 23));
      all.add(x.out(i % 8, x.told(i % 8, 21) - 1));
      all.add(x.disk(i % 8, 990 + 11 * (i % 2)));
      for (int k = 0; k < 8; k++) {
        all.add(x.peek(k, 67 * (i + 1) + (k % 2 == 0 ? 20 : 9)));
      }
      all.add(x.house(3));
      all.add(x.audit());
    }
    return all;
  }

  @Sentence(in = "terms 6", says = NOT_H)
  void theSameAnswersForEveryH() {
    List<Integer> want = answers(256);
    for (int h = 4; h < 256; h += h < 70 ? 1 : 31) {
      List<Integer> got = answers(h);
      due("how many answers with h = " + h, got.size(), want.size());
      for (int i = 0; i < want.size(); i++) {
        due("answer " + i + " with h = " + h, got.get(i), want.get(i));
      }
    }
  }

  @Sentence(in = "terms 6", says = NOT_H)
  void fewerFramesThanAGuestHasAndMore() {
    for (int h : new int[] {4, 63, 64, 65, 256}) {
      anew();
      due("install", x.install(h, 1), 0);
      due("guest", x.guest(64), 0);
      for (int i = 0; i < 64; i++) {
        due("poke", x.poke(0, 64 * i + i, 5000 + i), 0);
      }
      due("copy", x.copy(0), 1);
      for (int i = 0; i < 64; i++) {
        due("poke", x.poke(0, 64 * i + i, 7000 + i), 0);
      }
      for (int i = 63; i >= 0; i--) {
        due("peek", x.peek(0, 64 * i + i), 7000 + i);
        due("peek of the copy", x.peek(1, 64 * i + i), 5000 + i);
      }
      due("audit", x.audit(), 0);
    }
  }
}
