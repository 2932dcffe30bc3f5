import java.io.IOException;
import java.lang.reflect.Method;
import java.lang.reflect.Modifier;
import java.nio.file.Files;
import java.nio.file.Path;

/** What README.md says of the class's use: its example, done by hand, and its table of calls. */
public final class ReadmeTest {
  private final Checks checks = new Checks();

  public static void main(String[] args) throws IOException {
    ReadmeTest test = new ReadmeTest();
    test.example();
    test.tableOfCalls();
    test.checks.end();
  }

  private void example() {
    GuestHouse house = new GuestHouse();
    checks.due("install", house.install(4, 10), 0);
    int g = house.guest(2);
    checks.due("guest", g, 0);
    checks.due("poke", house.poke(g, 0, 9 << 26 | 1 << 23 | 5), 0);
    checks.due("poke", house.poke(g, 1, 29 << 26 | 1 << 20), 0);
    checks.due("poke", house.poke(g, 2, 27 << 26), 0);
    checks.due("start", house.start(g, 0), 0);
    checks.due("run", house.run(100), 3);
    checks.due("out", house.out(g, 0), 5);
  }

  private void tableOfCalls() throws IOException {
    String text = Files.readString(Path.of("README.md"));
    for (Method m : GuestHouse.class.getDeclaredMethods()) {
      boolean isPublic = Modifier.isPublic(m.getModifiers());
      if (isPublic && !text.contains("\n| `" + m.getName() + "(")) {
        checks.fail("README.md does not tell of " + m);
      }
    }
  }
}
