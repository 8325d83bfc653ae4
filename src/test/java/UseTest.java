import java.io.IOException;
import java.lang.reflect.Method;
import java.lang.reflect.Modifier;
import java.nio.file.Files;
import java.nio.file.Path;

/** The example of README.md, and that README.md shows it and names every call and every test as they are. */
public final class UseTest {
    public static void main(String[] args) throws IOException {
        example();
        String readme = Files.readString(Path.of("README.md"));
        exampleIsShown(readme, Files.readString(Path.of("src/test/java/UseTest.java")));
        everyCallIsNamed(readme);
        everyTestIsNamed(readme);
        Check.end();
    }

    private static void example() {
        WireHost host = new WireHost();
        host.name(0, 'a');
        host.body(0, 'H');
        host.body(0, 'i');

        int told = frame(host, 15, 3, 1, 3, 1);
        int station = host.known(3);
        int kind = host.sent(0, 2);
        Check.row("frames, station and kind", new int[] {told, station, kind}, 1, 3, 2);

        int opened = frame(host, 1, 3, 3, 3, 1, 7, 0, 6, 127, 20, 50, 0, 2, 40);
        int state = host.stream(0, 0);
        Check.row("frames and state", new int[] {opened, state}, 1, 1);

        int answered = frame(host, 1, 3, 3, 3, 1, 8, 0, 6, 188, 20, 51, 1, 16, 40, 'G', 'a', '\n');
        int found = host.sent(0, 14);
        int letter = host.sent(0, 15);
        Check.row("frames, mark and first letter", new int[] {answered, found, letter}, 1, '2', 'H');

        int again = host.tick(4);
        int beyond = host.sent(0, 18);
        int full = host.name(0, 'b') + host.name(0, 'c') + host.name(0, 'd') + host.name(0, 'e');
        Check.row("frames and refusals", new int[] {again, beyond, full}, 1, WireHost.REFUSED, 2 + 3 + 4 + WireHost.FULL);
    }

    static int frame(WireHost host, int... octets) {
        for (int v : octets) {
            host.octet(v);
        }
        return host.arrive();
    }

    private static void exampleIsShown(String readme, String test) {
        String[] parts = readme.split("```");
        Check.holds("README.md has an example", parts.length > 1 && parts[1].startsWith("java\n"));
        for (String line : parts[1].substring("java\n".length()).split("\n")) {
            String code = line.replaceAll("//.*", "").strip();
            Check.holds("README.md shows what is tested: " + code, test.contains(code));
        }
    }

    private static void everyCallIsNamed(String readme) {
        for (Method m : WireHost.class.getDeclaredMethods()) {
            if (Modifier.isPublic(m.getModifiers())) {
                Check.holds("README.md tells of " + m.getName(), readme.contains("`" + m.getName() + "("));
            }
        }
    }

    private static void everyTestIsNamed(String readme) {
        for (String name : Path.of("src/test/java").toFile().list()) {
            Check.holds("README.md tells of " + name, readme.contains("`" + name.replace(".java", "") + "`"));
        }
    }
}
