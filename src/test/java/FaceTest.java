import java.io.IOException;
import java.lang.reflect.Constructor;
import java.lang.reflect.Field;
import java.lang.reflect.Method;
import java.lang.reflect.Modifier;
import java.nio.file.Files;
import java.nio.file.Path;
import java.util.Arrays;
import java.util.List;
import java.util.TreeSet;
import java.util.regex.Matcher;
import java.util.regex.Pattern;

/** The public face of the document, and the rules of LANGUAGE.md that can be seen from outside. */
public final class FaceTest {
    private static final String[] FACE = {
        "void field(int) IllegalArgumentException",
        "int point(int, int) IllegalArgumentException IllegalStateException",
        "int combine(int) IllegalArgumentException IllegalStateException",
        "int degree()",
        "void begin(int, int, int) IllegalArgumentException",
        "void give(int, int, int, int) IllegalStateException IllegalArgumentException",
        "void fault(int, int, int) IllegalStateException IllegalArgumentException",
        "void crash(int, int) IllegalStateException IllegalArgumentException",
        "int next() IllegalStateException",
        "int state()",
        "int parties(int)",
        "int complaints(int) IllegalArgumentException",
        "int received(int, int, int) IllegalArgumentException",
        "int commitment(int, int, int) IllegalArgumentException",
        "int share(int, int) IllegalArgumentException",
        "int board()",
        "int told(int) IndexOutOfBoundsException",
        "int digest(int) IndexOutOfBoundsException",
        "int key()",
        "int recover(int) IllegalStateException IllegalArgumentException",
        "void refresh() IllegalStateException",
        "void handOn(int, int, int) IllegalStateException IllegalArgumentException"
    };
    private static final String[] FORBIDDEN = {
        "->", "::", "finally", "synchronized", "assert ", "try ", "getMessage", "Exact(", "import static",
        "System.out", "Random", "Thread", "package "
    };
    private static final Pattern LIBRARY = Pattern.compile("\\b(Arrays|System|Integer|Long|Math|String|List)\\.\\w+");
    private static final List<String> USED =
            List.of("Arrays.fill", "System.arraycopy", "Integer.bitCount", "Math.floorMod");
    private static final String IMPORT = "import java.util.Arrays;";
    private static final int LONGEST_METHOD = 60;

    private final Check check = new Check();

    public static void main(String[] args) throws IOException {
        FaceTest test = new FaceTest();
        test.face();
        test.members();
        test.nested();
        test.source();
        test.check.finish("FaceTest");
    }

    private void face() {
        check.same("public and final", Modifier.toString(SharingRoom.class.getModifiers()), "public final");
        TreeSet<String> got = new TreeSet<>();
        for (Method m : SharingRoom.class.getDeclaredMethods()) {
            if (Modifier.isPublic(m.getModifiers())) {
                got.add(describe(m));
            }
        }
        check.same("public methods", got.toString(), new TreeSet<>(Arrays.asList(FACE)).toString());
        Constructor<?>[] constructors = SharingRoom.class.getDeclaredConstructors();
        check.equal("one constructor", constructors.length, 1);
        check.equal("without parameters", constructors[0].getParameterCount(), 0);
        check.same("public", Modifier.toString(constructors[0].getModifiers()), "public");
    }

    private static String describe(Method m) {
        StringBuilder text = new StringBuilder(m.getReturnType().getSimpleName()).append(" ");
        text.append(m.getName()).append("(");
        for (int k = 0; k < m.getParameterCount(); k++) {
            text.append(k == 0 ? "" : ", ").append(m.getParameterTypes()[k].getSimpleName());
        }
        text.append(")");
        for (Class<?> e : m.getExceptionTypes()) {
            text.append(" ").append(e.getSimpleName());
        }
        return text.toString();
    }

    private void members() {
        TreeSet<String> publicNames = new TreeSet<>();
        for (Method m : SharingRoom.class.getDeclaredMethods()) {
            boolean known = Modifier.isPublic(m.getModifiers()) || Modifier.isPrivate(m.getModifiers());
            check.same("rule 1: " + m, String.valueOf(known), "true");
            if (Modifier.isPublic(m.getModifiers())) {
                publicNames.add(m.getName());
            }
        }
        for (Field f : SharingRoom.class.getDeclaredFields()) {
            check.same("rule 1: " + f, String.valueOf(Modifier.isPrivate(f.getModifiers())), "true");
        }
        for (Class<?> c : allClasses()) {
            for (Method m : c.getDeclaredMethods()) {
                boolean clash = !Modifier.isPublic(m.getModifiers()) && publicNames.contains(m.getName());
                check.same("rule 1: the name of " + m, String.valueOf(clash), "false");
                check.same("rule 11: " + m, String.valueOf(m.getParameterCount() <= 7), "true");
            }
        }
    }

    private static Class<?>[] allClasses() {
        Class<?>[] nested = SharingRoom.class.getDeclaredClasses();
        Class<?>[] all = Arrays.copyOf(nested, nested.length + 1);
        all[nested.length] = SharingRoom.class;
        return all;
    }

    private void nested() {
        Class<?>[] all = allClasses();
        check.same("rule 11: classes", String.valueOf(all.length <= 12), "true");
        for (Class<?> c : all) {
            if (c != SharingRoom.class) {
                int modifiers = c.getModifiers();
                boolean hidden = Modifier.isStatic(modifiers) && !Modifier.isPublic(modifiers)
                        && !Modifier.isProtected(modifiers);
                check.same("rule 1: " + c, String.valueOf(hidden), "true");
            }
            int fields = 0;
            for (Field f : c.getDeclaredFields()) {
                if (!Modifier.isStatic(f.getModifiers())) {
                    fields++;
                } else {
                    check.same("rule 5: " + f, String.valueOf(Modifier.isFinal(f.getModifiers())), "true");
                }
            }
            check.same("rule 11: fields of " + c, String.valueOf(fields <= 20), "true");
        }
    }

    private void source() throws IOException {
        String text = Files.readString(Path.of("src/main/java/SharingRoom.java"));
        for (String word : FORBIDDEN) {
            check.equal("LANGUAGE.md: " + word, text.indexOf(word), -1);
        }
        for (String line : text.split("\n")) {
            if (line.startsWith("import")) {
                check.same("rule 4", line, IMPORT);
            }
        }
        Matcher library = LIBRARY.matcher(text.replace(IMPORT, ""));
        while (library.find()) {
            check.same("rule 4: " + library.group(), String.valueOf(USED.contains(library.group())), "true");
        }
        lengths(text.split("\n"));
    }

    /** A method begins where a line at its depth opens a brace, and ends with the next one that closes it. */
    private void lengths(String[] lines) {
        int start = 0;
        for (int k = 0; k < lines.length; k++) {
            if (lines[k].matches("( {4}| {8})\\w.*\\{") || lines[k].matches("( {4}| {8})\\w.*\\)")) {
                start = k;
            } else if (lines[k].equals("    }") || lines[k].equals("        }")) {
                check.same("rule 11: " + lines[start], String.valueOf(k - start < LONGEST_METHOD), "true");
                start = k;
            }
        }
    }
}
