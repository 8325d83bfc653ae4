import java.io.IOException;
import java.lang.reflect.Constructor;
import java.lang.reflect.Field;
import java.lang.reflect.Method;
import java.lang.reflect.Modifier;
import java.nio.file.Files;
import java.nio.file.Path;
import java.util.TreeSet;
import java.util.regex.Matcher;
import java.util.regex.Pattern;

/** The public face of the document, and those rules of LANGUAGE.md that can be seen in the text of the program. */
public final class FaceTest {
    private static final String[] METHODS = {
        "octet 1", "arrive 0", "tick 1", "sent 2", "name 2", "body 2", "spoil 3", "erase 1", "known 1", "stream 2", "assembly 2", "count 1"};
    private static final int LONGEST_METHOD = 60;

    public static void main(String[] args) throws IOException {
        Check.holds("public and final", Modifier.isPublic(WireHost.class.getModifiers()) && Modifier.isFinal(WireHost.class.getModifiers()));
        methods();
        fields();
        constructors();
        nested();
        source(Files.readString(Path.of("src/main/java/WireHost.java")));
        Check.end();
    }

    private static void methods() {
        TreeSet<String> due = new TreeSet<>(java.util.List.of(METHODS));
        TreeSet<String> got = new TreeSet<>();
        for (Method m : WireHost.class.getDeclaredMethods()) {
            if (!Modifier.isPrivate(m.getModifiers()) && !m.isSynthetic()) {
                got.add(m.getName() + " " + m.getParameterCount());
                Check.holds(m.getName() + " is public and answers int", Modifier.isPublic(m.getModifiers())
                        && !Modifier.isStatic(m.getModifiers()) && m.getReturnType() == int.class);
            }
        }
        Check.holds("methods " + got + " are " + due, got.equals(due));
    }

    private static void fields() {
        for (Field f : WireHost.class.getDeclaredFields()) {
            boolean constant = f.getName().equals("REFUSED") || f.getName().equals("FULL");
            int m = f.getModifiers();
            Check.holds(f.getName() + " is as visible as it should be", constant ? Modifier.isPublic(m) : Modifier.isPrivate(m));
            Check.holds(f.getName() + " is no static state", !Modifier.isStatic(m) || Modifier.isFinal(m));
        }
    }

    private static void constructors() {
        Constructor<?>[] all = WireHost.class.getDeclaredConstructors();
        Check.due("constructors", all.length, 1);
        Check.holds("it is public and takes nothing", Modifier.isPublic(all[0].getModifiers()) && all[0].getParameterCount() == 0);
    }

    private static void nested() {
        Class<?>[] all = WireHost.class.getDeclaredClasses();
        Check.holds("at most twelve classes", all.length <= 11);
        for (Class<?> c : all) {
            Check.holds(c.getName() + " is static and private", Modifier.isStatic(c.getModifiers()) && Modifier.isPrivate(c.getModifiers()));
            int fields = 0;
            for (Field f : c.getDeclaredFields()) {
                fields += Modifier.isStatic(f.getModifiers()) ? 0 : 1;
            }
            Check.holds(c.getName() + " has at most twenty fields", fields <= 20);
            for (Method m : c.getDeclaredMethods()) {
                Check.holds(m.getName() + " takes at most seven", m.getParameterCount() <= 7);
                for (String face : METHODS) {
                    Check.holds(c.getName() + "." + m.getName() + " bears no name of the face", !face.startsWith(m.getName() + " "));
                }
            }
        }
    }

    private static void source(String text) {
        String code = text.replaceAll("(?s)/\\*.*?\\*/", "").replaceAll("//[^\n]*", "");
        String[] ruledOut = {"throw", "throws", "try", "catch", "synchronized", "assert", "import", "package", "volatile", "native"};
        for (String word : ruledOut) {
            Check.holds("no " + word, !Pattern.compile("\\b" + word + "\\b").matcher(code).find());
        }
        Check.holds("no lambda, no method reference", !code.contains("->") && !code.contains("::"));
        Check.holds("no text is joined, none is needed", !code.contains("\""));
        methodLengths(text);
    }

    private static void methodLengths(String text) {
        String[] lines = text.split("\n");
        Pattern head = Pattern.compile("^( {4}| {8})\\S.*\\) \\{$");
        for (int i = 0; i < lines.length; i++) {
            Matcher m = head.matcher(lines[i]);
            if (m.matches()) {
                int end = i;
                while (end < lines.length && !lines[end].equals(m.group(1) + "}")) {
                    end++;
                }
                Check.holds("line " + (i + 1) + ": a short method", end - i < LONGEST_METHOD);
            }
        }
    }
}
