import com.sun.management.ThreadMXBean;
import java.io.IOException;
import java.lang.management.ManagementFactory;
import java.lang.reflect.Constructor;
import java.lang.reflect.Field;
import java.lang.reflect.Method;
import java.lang.reflect.Modifier;
import java.nio.charset.StandardCharsets;
import java.nio.file.Files;
import java.nio.file.Path;
import java.util.Set;
import java.util.TreeSet;
import java.util.regex.Pattern;

/** The face, the words that LANGUAGE.md rules out, and the room that calls take. */
public final class FormTest {
  private static final String[] FACE = {
    "install(int,int)", "guest(int)", "poke(int,int,int)", "pokeDisk(int,int,int)",
    "start(int,int)", "stop(int)", "input(int,int)", "copy(int)", "drop(int)", "run(int)",
    "only(int,int)", "state(int)", "told(int,int)", "peek(int,int)", "disk(int,int)",
    "out(int,int)", "cached(int,int)", "house(int)", "audit()"
  };
  private static final String[] RULED_OUT = {
    "\\bthrow\\b", "\\bthrows\\b", "\\btry\\b", "\\bcatch\\b", "\\bsynchronized\\b", "\\bassert\\b",
    "->", "::", "\\bSystem\\.(?!arraycopy\\b)", "\\bRandom\\b", "\\bThread\\b", "\\w+Exact\\b",
    "import (?!java\\.util\\.Arrays;)", "\\bprotected\\b", "^package\\b",
    "\\bArrays\\.(?!(copyOf|copyOfRange|fill)\\b)", "\\bhashCode\\b", "\\bequals\\b",
    "\\btoString\\b"
  };
  private static final int MOST_CLASSES = 12;
  private static final int MOST_FIELDS = 20;
  private static final int MOST_PARAMETERS = 7;
  private static final int MOST_LINES = 60;
  private static final Path SOURCE = Path.of("src/main/java/GuestHouse.java");
  private static final long ROOM_IN_BYTES = 4L * 7_300_000;

  private final Checks checks = new Checks();

  public static void main(String[] args) throws IOException {
    FormTest test = new FormTest();
    test.face();
    test.classesInside();
    test.words();
    test.lengths();
    test.room();
    test.checks.end();
  }

  private void face() {
    Set<String> want = new TreeSet<>(Set.of(FACE));
    Set<String> got = new TreeSet<>();
    Set<String> publicNames = new TreeSet<>();
    for (Method m : GuestHouse.class.getDeclaredMethods()) {
      if (!Modifier.isPrivate(m.getModifiers())) {
        String text = m.toString();
        got.add(m.getName() + text.substring(text.indexOf('(')));
        publicNames.add(m.getName());
        if (m.getReturnType() != int.class || m.getModifiers() != Modifier.PUBLIC) {
          checks.fail("the face has another " + m);
        }
      }
    }
    if (!want.equals(got)) {
      checks.fail("the face is " + got + ", due is " + want);
    }
    for (Field f : GuestHouse.class.getDeclaredFields()) {
      if (!Modifier.isPrivate(f.getModifiers())) {
        checks.fail("a field that can be seen: " + f);
      }
    }
    for (Class<?> c : GuestHouse.class.getDeclaredClasses()) {
      for (Method m : c.getDeclaredMethods()) {
        if (publicNames.contains(m.getName())) {
          checks.fail("a method inside bears a public name: " + m);
        }
      }
    }
    Constructor<?>[] constructors = GuestHouse.class.getDeclaredConstructors();
    checks.due("constructors", constructors.length, 1);
    checks.due("its parameters", constructors[0].getParameterCount(), 0);
    checks.due("final and public", GuestHouse.class.getModifiers(),
        Modifier.FINAL | Modifier.PUBLIC);
  }

  private void classesInside() {
    Class<?>[] inside = GuestHouse.class.getDeclaredClasses();
    if (inside.length + 1 > MOST_CLASSES) {
      checks.fail("there are " + (inside.length + 1) + " classes");
    }
    sizes(GuestHouse.class);
    for (Class<?> c : inside) {
      if (!Modifier.isStatic(c.getModifiers()) || Modifier.isPublic(c.getModifiers())) {
        checks.fail("a class inside that is not static, or is public: " + c);
      }
      checks.due("classes inside " + c, c.getDeclaredClasses().length, 0);
      sizes(c);
    }
  }

  private void sizes(Class<?> c) {
    int fields = 0;
    for (Field f : c.getDeclaredFields()) {
      if (!Modifier.isStatic(f.getModifiers())) {
        fields++;
      } else if (!Modifier.isFinal(f.getModifiers()) || f.getType() != int.class) {
        checks.fail("a static field that is no constant: " + f);
      }
    }
    if (fields > MOST_FIELDS) {
      checks.fail(c + " has " + fields + " fields");
    }
    for (Method m : c.getDeclaredMethods()) {
      if (m.getParameterCount() > MOST_PARAMETERS) {
        checks.fail("too many parameters: " + m);
      }
    }
  }

  /** Methods begin and end at the depth of their own braces, two spaces a class. */
  private void lengths() throws IOException {
    int begun = 0;
    int line = 0;
    for (String text : Files.readAllLines(SOURCE, StandardCharsets.US_ASCII)) {
      line++;
      if (text.matches(" {2,4}\\w.*\\) \\{")) {
        begun = line;
      } else if (text.matches(" {2,4}\\}") && begun > 0) {
        if (line - begun + 1 > MOST_LINES) {
          checks.fail("the method at line " + begun + " has " + (line - begun + 1) + " lines");
        }
        begun = 0;
      }
    }
  }

  private void words() throws IOException {
    String text = Files.readString(SOURCE, StandardCharsets.US_ASCII);
    text = text.replaceAll("(?s)/\\*.*?\\*/", "").replaceAll("//.*", "");
    for (String word : RULED_OUT) {
      if (Pattern.compile(word, Pattern.MULTILINE).matcher(text).find()) {
        checks.fail("LANGUAGE.md rules out " + word);
      }
    }
  }

  /** 512 calls that make the most, on one object; and as many objects as a run may make. */
  private void room() {
    ThreadMXBean bean = (ThreadMXBean) ManagementFactory.getThreadMXBean();
    long id = Thread.currentThread().getId();
    long before = bean.getThreadAllocatedBytes(id);
    GuestHouse x = new GuestHouse();
    for (int i = 0; i < 512; i++) {
      dearCall(x, i);
    }
    long one = bean.getThreadAllocatedBytes(id) - before;
    if (one > ROOM_IN_BYTES / 10) {
      checks.fail("one object took " + one + " bytes");
    }
    before = bean.getThreadAllocatedBytes(id);
    for (int i = 0; i < 256; i++) {
      x = new GuestHouse();
      x.guest(64);
    }
    long many = bean.getThreadAllocatedBytes(id) - before;
    if (many > ROOM_IN_BYTES / 2) {
      checks.fail("256 objects took " + many + " bytes");
    }
  }

  private void dearCall(GuestHouse x, int i) {
    switch (i % 8) {
      case 0:
        x.install(i % 16 == 0 ? 256 : 4, 1000);
        break;
      case 1:
        x.guest(64);
        x.poke(0, 0, Code.write(1, 0, 2));
        x.poke(0, 1, Code.add(1, 1, 63));
        x.poke(0, 2, Code.word(17, 3, 0, 0, -2));
        x.start(0, 0);
        break;
      case 2:
        x.run(2000);
        break;
      case 3, 4, 5, 6:
        x.copy(0);
        break;
      default:
        x.run(2000);
        x.audit();
        x.drop(0);
    }
  }
}
