/** Words of instructions, so that tests can be read. */
final class Code {
  static final int STATUS = 0;
  static final int CAUSE = 1;
  static final int EPC = 2;
  static final int BAD = 3;
  static final int VECTOR = 4;
  static final int ROOT = 5;
  static final int TIMER = 6;
  static final int SCRATCH = 7;
  static final int COUNT = 8;

  private Code() {}

  static int word(int op, int d, int a, int b, int n) {
    return op << 26 | (d & 7) << 23 | (a & 7) << 20 | (b & 7) << 17 | n & 0x1ffff;
  }

  static int three(int op, int d, int a, int b) {
    return word(op, d, a, b, 0);
  }

  static int add(int d, int a, int n) {
    return word(9, d, a, 0, n);
  }

  static int set(int d, int n) {
    return add(d, 0, n);
  }

  static int high(int d, int n) {
    return word(10, d, 0, 0, n);
  }

  static int read(int d, int a, int n) {
    return word(11, d, a, 0, n);
  }

  static int write(int a, int n, int b) {
    return word(12, 0, a, b, n);
  }

  static int exchange(int d, int a, int n, int b) {
    return word(13, d, a, b, n);
  }

  /** On at itself, and nothing else. */
  static int loop() {
    return go(0);
  }

  /** On at PC + n; no register changes. */
  static int go(int n) {
    return word(14, 0, 0, 0, n);
  }

  static int call(int n) {
    return word(19, 0, 0, 0, n);
  }

  static int time(int d) {
    return word(20, d, 0, 0, 0);
  }

  static int getControl(int d, int n) {
    return word(21, d, 0, 0, n);
  }

  static int setControl(int n, int a) {
    return word(22, 0, a, 0, n);
  }

  static int back() {
    return word(23, 0, 0, 0, 0);
  }

  static int emptyCache() {
    return word(24, 0, 0, 0, 0);
  }

  static int forget(int a) {
    return word(25, 0, a, 0, 0);
  }

  static int pause() {
    return word(26, 0, 0, 0, 0);
  }

  static int halt() {
    return word(27, 0, 0, 0, 0);
  }

  static int in(int d, int n) {
    return word(28, d, 0, 0, n);
  }

  static int out(int a, int n) {
    return word(29, 0, a, 0, n);
  }
}
