import java.util.Arrays;

/** Words that bring a guest, by steps of its own, to where a test begins: one step a word. */
final class Program {
  /** Controls are loaded through this register, so a test counts on another. */
  private static final int HELPER = 7;
  private static final int WORDS_OF_CONTROL = 3;

  private int[] words = new int[0];

  Program then(int... more) {
    int size = words.length;
    words = Arrays.copyOf(words, size + more.length);
    System.arraycopy(more, 0, words, size, more.length);
    return this;
  }

  Program load(int d, int v) {
    return then(Code.high(d, v >> 15), Code.add(d, d, v & 0x7fff));
  }

  Program control(int n, int v) {
    return load(HELPER, v).then(Code.setControl(n, HELPER));
  }

  /** COUNT is V behind these words. */
  Program count(int v) {
    return control(Code.COUNT, v - 1);
  }

  /** COUNT is COUNT and STATUS is STATUS behind these words, which lines do not trap. */
  Program countAndStatus(int count, int status) {
    return count(count - WORDS_OF_CONTROL).control(Code.STATUS, status);
  }

  /** On in MODE 0 right behind these words; its STATUS is as 'back' makes it of this one. */
  Program user(int status) {
    return control(Code.EPC, words.length + 2 * WORDS_OF_CONTROL + 1)
        .control(Code.STATUS, status).then(Code.back());
  }

  /** The same with pages; page 0 must be frame 0. */
  Program userWithPages(int root, int status) {
    return control(Code.EPC, words.length + 3 * WORDS_OF_CONTROL + 1)
        .control(Code.STATUS, status).control(Code.ROOT, root).then(Code.back());
  }

  int size() {
    return words.length;
  }

  int[] words() {
    return words.clone();
  }
}
