import java.util.ArrayDeque;
import java.util.ArrayList;
import java.util.Arrays;
import java.util.List;

/**
 * The document told again without a host: every guest has its memory in one plain row. What the
 * class answers may not differ from this, whatever frames the host has.
 */
final class PlainHouse {
  private static final class Trap extends Exception {
    private static final long serialVersionUID = 1L;
    final int cause;
    final int number;

    Trap(int cause, int number) {
      super(null, null, false, false);
      this.cause = cause;
      this.number = number;
    }
  }

  private static final class Entry {
    int frame;
    boolean w;
    boolean u;
    boolean d;

    Entry again() {
      Entry e = new Entry();
      e.frame = frame;
      e.w = w;
      e.u = u;
      e.d = d;
      return e;
    }
  }

  private static final class Machine {
    int f;
    int[] memory;
    int[] disk = new int[1024];
    int[] r = new int[8];
    int pc;
    int mode;
    boolean on;
    boolean onBefore;
    boolean modeBefore;
    boolean bit8;
    boolean bit9;
    boolean bit10;
    /** CAUSE to COUNT; STATUS is in the booleans. */
    int[] control = new int[9];
    Entry[] cache = new Entry[256];
    ArrayDeque<Integer> came = new ArrayDeque<>();
    List<Integer> put = new ArrayList<>();
    int place;
    int state;
    int traps;

    Machine(int f) {
      this.f = f;
      memory = new int[64 * f];
    }

    int status() {
      return (on ? 1 : 0) + (onBefore ? 2 : 0) + (modeBefore ? 4 : 0)
          + (bit8 ? 256 : 0) + (bit9 ? 512 : 0) + (bit10 ? 1024 : 0);
    }

    void setStatus(int v) {
      on = (v & 1) != 0;
      onBefore = (v & 2) != 0;
      modeBefore = (v & 4) != 0;
      bit8 = (v & 256) != 0;
      bit9 = (v & 512) != 0;
      bit10 = (v & 1024) != 0;
    }

    int getControl(int n) {
      return n == 0 ? status() : n == 9 ? f : control[n];
    }

    boolean inMemory(long address) {
      return address < 64L * f;
    }

    boolean timerLine() {
      return control[6] != 0 && control[8] - control[6] >= 0;
    }

    void trapped(int c, int number) {
      control[1] = c;
      control[2] = pc;
      control[3] = number;
      onBefore = on;
      modeBefore = mode == 1;
      on = false;
      mode = 1;
      pc = control[4];
      traps++;
    }

    int place(int at, int pageTrap) throws Trap {
      long address = at & 0xffffffffL;
      int root = control[5];
      if (root >>> 31 == 0) {
        if (!inMemory(address)) {
          throw new Trap(5, at);
        }
        return (int) address;
      }
      if (address >= 16384) {
        throw new Trap(pageTrap, at);
      }
      int page = (int) (address / 64);
      int table = 64 * (root & 63) + page;
      Entry e = cache[page];
      if (e == null) {
        if (!inMemory(table)) {
          throw new Trap(5, at);
        }
        int word = memory[table];
        int frame = word >>> 8 & 63;
        if ((word & 1) == 0 || frame >= f) {
          throw new Trap(pageTrap, at);
        }
        memory[table] |= 1 << 3;
        e = new Entry();
        e.frame = frame;
        e.w = (word & 1 << 1) != 0;
        e.u = (word & 1 << 2) != 0;
        e.d = (word & 1 << 4) != 0;
        cache[page] = e;
      }
      if (mode == 0 && !e.u) {
        throw new Trap(pageTrap, at);
      }
      if (pageTrap == 13) {
        if (!e.w) {
          throw new Trap(pageTrap, at);
        }
        if (!e.d) {
          memory[table] |= 1 << 4;
          e.d = true;
        }
      }
      return 64 * e.frame + (int) (address % 64);
    }

    void step() {
      if (on && bit8 && timerLine()) {
        trapped(16, 0);
      } else if (on && bit9 && !came.isEmpty()) {
        trapped(17, 0);
      } else {
        try {
          instruction();
        } catch (Trap t) {
          trapped(t.cause, t.number);
        }
      }
    }

    void instruction() throws Trap {
      int w = memory[place(pc, 11)];
      int op = w >>> 26;
      int d = w >>> 23 & 7;
      int a = r[w >>> 20 & 7];
      int b = r[w >>> 17 & 7];
      int n = w & 0xffff;
      if ((w & 0x10000) != 0) {
        n -= 0x10000;
      }
      if (mode == 0 && (op >= 21 && op <= 29 || op == 20 && !bit10)) {
        throw new Trap(3, w);
      }
      if (op >= 30 || op == 21 && (n < 0 || n > 9) || op == 22 && (n < 0 || n > 8)) {
        throw new Trap(2, w);
      }
      int next = pc + 1;
      int count = control[8] + 1;
      switch (op) {
        case 0 -> r[d] = a + b;
        case 1 -> r[d] = a - b;
        case 2 -> r[d] = a & b;
        case 3 -> r[d] = a | b;
        case 4 -> r[d] = a ^ b;
        case 5 -> r[d] = (int) ((long) a * b);
        case 6 -> r[d] = a < b ? 1 : 0;
        case 7 -> r[d] = a << b;
        case 8 -> r[d] = a >>> b;
        case 9 -> r[d] = a + n;
        case 10 -> r[d] = n * 32768;
        case 11 -> r[d] = memory[place(a + n, 12)];
        case 12 -> memory[place(a + n, 13)] = b;
        case 13 -> {
          int at = place(a + n, 13);
          r[d] = memory[at];
          memory[at] = b;
        }
        case 14 -> next = a == b ? pc + n : next;
        case 15 -> next = a != b ? pc + n : next;
        case 16 -> next = a < b ? pc + n : next;
        case 17 -> {
          r[d] = pc + 1;
          next = pc + n;
        }
        case 18 -> {
          r[d] = pc + 1;
          next = a + n;
        }
        case 19 -> throw new Trap(mode == 0 ? 8 : 9, n);
        case 20 -> r[d] = control[8];
        case 21 -> r[d] = getControl(n);
        case 22 -> {
          if (n == 0) {
            setStatus(a);
          } else if (n == 8) {
            count = a + 1;
          } else {
            control[n] = a;
          }
          if (n == 5) {
            Arrays.fill(cache, null);
          }
        }
        case 23 -> {
          on = onBefore;
          mode = modeBefore ? 1 : 0;
          onBefore = true;
          modeBefore = false;
          next = control[2];
        }
        case 24 -> Arrays.fill(cache, null);
        case 25 -> cache[a & 255] = null;
        case 26 -> {
          boolean up = timerLine() || !came.isEmpty();
          if (!up && control[6] != 0) {
            count = control[6];
          } else if (!up) {
            state = 2;
          }
        }
        case 27 -> state = 3;
        case 28 -> r[d] = n == 0 ? came.isEmpty() ? 0 : came.removeFirst()
            : n == 1 ? came.size() : n == 2 ? put.size() : n == 3 ? place : 0;
        default -> give(a, n);
      }
      pc = next;
      control[8] = count;
    }

    void give(int a, int n) {
      if (n == 0) {
        put.add(a);
      } else if (n == 1) {
        place = a;
      } else if (n == 2 && (place & 0xffffffffL) < f) {
        int sector = a >> 1 & 15;
        for (int i = 0; i < 64; i++) {
          if ((a & 1) == 1) {
            disk[64 * sector + i] = memory[64 * place + i];
          } else {
            memory[64 * place + i] = disk[64 * sector + i];
          }
        }
      }
    }

    Machine again() {
      Machine m = new Machine(f);
      m.memory = memory.clone();
      m.disk = disk.clone();
      m.r = r.clone();
      m.pc = pc;
      m.mode = mode;
      m.setStatus(status());
      m.control = control.clone();
      for (int i = 0; i < 256; i++) {
        m.cache[i] = cache[i] == null ? null : cache[i].again();
      }
      m.came = new ArrayDeque<>(came);
      m.put = new ArrayList<>(put);
      m.place = place;
      m.state = state;
      m.traps = traps;
      return m;
    }
  }

  private Machine[] guests = new Machine[8];
  private int slice = 10;
  private int current = 7;
  private int left;
  private int steps;

  private Machine of(int g) {
    return g >= 0 && g < 8 ? guests[g] : null;
  }

  private int settle(Machine m) {
    for (int i = 0; i < 8; i++) {
      if (guests[i] == null) {
        guests[i] = m;
        return i;
      }
    }
    return -12;
  }

  int install(int h, int newSlice) {
    if (h < 4 || h > 256 || newSlice < 1 || newSlice > 1000) {
      return -1;
    }
    guests = new Machine[8];
    slice = newSlice;
    current = 7;
    left = 0;
    steps = 0;
    return 0;
  }

  int guest(int frames) {
    return frames < 1 || frames > 64 ? -1 : settle(new Machine(frames));
  }

  int poke(int g, int address, int v) {
    Machine m = of(g);
    if (m == null || m.state != 0 || address < 0 || address >= m.memory.length) {
      return m == null ? -14 : m.state != 0 ? -1 : -2;
    }
    m.memory[address] = v;
    return 0;
  }

  int pokeDisk(int g, int i, int v) {
    Machine m = of(g);
    if (m == null || m.state != 0 || i < 0 || i > 1023) {
      return m == null ? -14 : m.state != 0 ? -1 : -2;
    }
    m.disk[i] = v;
    return 0;
  }

  int start(int g, int pc) {
    Machine m = of(g);
    if (m == null || m.state != 0) {
      return m == null ? -14 : -1;
    }
    m.state = 1;
    m.pc = pc;
    m.mode = 1;
    m.place = 0;
    m.traps = 0;
    m.r = new int[8];
    m.control = new int[9];
    m.setStatus(0);
    m.cache = new Entry[256];
    return 0;
  }

  int stop(int g) {
    if (of(g) == null) {
      return -14;
    }
    of(g).state = 0;
    return 0;
  }

  int input(int g, int v) {
    Machine m = of(g);
    if (m == null || m.came.size() == 64) {
      return m == null ? -14 : -12;
    }
    m.came.addLast(v);
    m.state = m.state == 2 ? 1 : m.state;
    return 0;
  }

  int copy(int g) {
    return of(g) == null ? -14 : settle(of(g).again());
  }

  int drop(int g) {
    if (of(g) == null) {
      return -14;
    }
    guests[g] = null;
    return 0;
  }

  int run(int n) {
    if (n < 0 || n > 2000) {
      return -1;
    }
    for (int done = 0; done < n; done++) {
      if (left == 0 || guests[current] == null || guests[current].state != 1) {
        int found = -1;
        for (int i = 8; i >= 1; i--) {
          int g = (current + i) % 8;
          found = guests[g] != null && guests[g].state == 1 ? g : found;
        }
        if (found < 0) {
          return done;
        }
        current = found;
        left = slice;
      }
      guests[current].step();
      left--;
      steps++;
    }
    return n;
  }

  int only(int g, int n) {
    Machine m = of(g);
    if (m == null || n < 0 || n > 2000) {
      return m == null ? -14 : -1;
    }
    int done = 0;
    while (done < n && m.state == 1) {
      m.step();
      done++;
      steps++;
    }
    return done;
  }

  int state(int g) {
    return of(g) == null ? -14 : of(g).state;
  }

  int told(int g, int what) {
    Machine m = of(g);
    if (m == null || what < 0 || what > 23) {
      return 0;
    }
    if (what < 8) {
      return m.r[what];
    }
    if (what >= 10 && what < 20) {
      return m.getControl(what - 10);
    }
    return switch (what) {
      case 8 -> m.pc;
      case 9 -> m.mode;
      case 20 -> m.came.size();
      case 21 -> m.put.size();
      case 22 -> m.place;
      default -> m.traps;
    };
  }

  int peek(int g, int address) {
    return of(g) == null || address < 0 || address >= of(g).memory.length
        ? 0 : of(g).memory[address];
  }

  int disk(int g, int i) {
    return of(g) == null || i < 0 || i > 1023 ? 0 : of(g).disk[i];
  }

  int out(int g, int i) {
    return of(g) == null || i < 0 || i > 999 || i >= of(g).put.size() ? 0 : of(g).put.get(i);
  }

  int cached(int g, int page) {
    if (of(g) == null || page < 0 || page > 255 || of(g).cache[page] == null) {
      return -1;
    }
    Entry e = of(g).cache[page];
    return 8 * e.frame + (e.w ? 1 : 0) + (e.u ? 2 : 0) + (e.d ? 4 : 0);
  }

  int house(int what) {
    int there = 0;
    for (Machine m : guests) {
      there += m == null ? 0 : 1;
    }
    return what == 0 ? current : what == 1 ? left : what == 2 ? there : what == 3 ? steps : 0;
  }

  int audit() {
    return 0;
  }
}
