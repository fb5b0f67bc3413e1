import java.io.IOException;
import java.lang.management.ManagementFactory;
import java.lang.reflect.Constructor;
import java.lang.reflect.Field;
import java.lang.reflect.Method;
import java.lang.reflect.Modifier;
import java.nio.file.Files;
import java.nio.file.Path;
import java.util.ArrayList;
import java.util.Arrays;
import java.util.List;
import java.util.Map;
import java.util.Set;
import java.util.TreeMap;
import java.util.TreeSet;
import java.util.regex.Matcher;
import java.util.regex.Pattern;

/** The document's public face, and those rules of ../shared/LANGUAGE.md that can be seen from outside. */
public final class LanguageTest {
    private static final Set<String> FACE = new TreeSet<>(Arrays.asList(
        "int letter(int)", "int blank()", "int fault()", "int valley()", "int cell(int,int)", "int borders()",
        "int source(int,int,int,int)", "int about(int,int)", "int as(int,int)", "int burn(int,boolean)",
        "int wind(int)", "int frost(boolean)", "int people(int,int)", "int dusk()", "int hour()",
        "int weakest(int,int,int)", "int walls(int,int,int)", "int hold(int,int)", "int nose(int,int)",
        "int forget()", "int unknown(int)", "int sniff()", "int days(int,int,int)", "int image()", "int restore()",
        "int count(int)", "long digest()"));
    private static final Set<String> CONSTANTS = new TreeSet<>(Arrays.asList(
        "NONE=-1", "UNKNOWN=-101", "OUTSIDE=-102", "STATE=-103", "FULL=-104"));
    private static final String[] FORBIDDEN = {"throw", "throws", "try", "catch", "finally", "synchronized", "assert",
        "import", "package", "equals", "hashCode", "toString", "Thread", "Random", "native", "volatile"};

    private static final Set<String> LIBRARY = new TreeSet<>(Arrays.asList(
        "Math.max(", "Math.min(", "Integer.bitCount(", "System.arraycopy("));

    private static int wrong = 0;

    private static void must(String what, boolean holds) {
        if (!holds) {
            wrong++;
            System.out.println("does not hold: " + what);
        }
    }

    private static String told(Method m) {
        StringBuilder text = new StringBuilder(m.getReturnType().getSimpleName());
        text.append(' ').append(m.getName()).append('(');
        for (int i = 0; i < m.getParameterCount(); i++) {
            text.append(i > 0 ? "," : "").append(m.getParameterTypes()[i].getSimpleName());
        }
        return text.append(')').toString();
    }

    private static void face() throws IllegalAccessException {
        Class<?> c = SmellBorders.class;
        must("public and final", Modifier.isPublic(c.getModifiers()) && Modifier.isFinal(c.getModifiers()));
        must("just Object above it", c.getSuperclass() == Object.class && c.getInterfaces().length == 0);
        Set<String> open = new TreeSet<>();
        Set<String> openNames = new TreeSet<>();
        for (Method m : c.getDeclaredMethods()) {
            if (Modifier.isPrivate(m.getModifiers()) || m.isSynthetic()) continue;
            must(m + " is public and no static one", m.getModifiers() == Modifier.PUBLIC);
            open.add(told(m));
            openNames.add(m.getName());
        }
        must("the document's methods: " + open, open.equals(FACE));
        for (Method m : c.getDeclaredMethods()) {
            boolean hidden = Modifier.isPrivate(m.getModifiers());
            must(m + " has a name of its own", !hidden || !openNames.contains(m.getName()));
        }
        Constructor<?>[] made = c.getDeclaredConstructors();
        must("one public constructor", made.length == 1 && made[0].getModifiers() == Modifier.PUBLIC
            && made[0].getParameterCount() == 0);
        constants(c);
    }

    private static void constants(Class<?> c) throws IllegalAccessException {
        Set<String> open = new TreeSet<>();
        for (Field f : c.getDeclaredFields()) {
            if (Modifier.isPrivate(f.getModifiers())) continue;
            must(f + " is a public constant",
                f.getModifiers() == (Modifier.PUBLIC | Modifier.STATIC | Modifier.FINAL) && f.getType() == int.class);
            open.add(f.getName() + "=" + f.getInt(null));
        }
        must("the document's constants: " + open, open.equals(CONSTANTS));
    }

    private static void insides(Class<?> c) {
        int fields = 0;
        for (Field f : c.getDeclaredFields()) {
            if (f.isSynthetic()) continue;
            boolean isStatic = Modifier.isStatic(f.getModifiers());
            must(f + ": static fields are final", !isStatic || Modifier.isFinal(f.getModifiers()));
            if (!isStatic) fields++;
        }
        must(c + " has twenty fields at most", fields <= 20);
        for (Method m : c.getDeclaredMethods()) {
            must(m + " takes seven parameters at most", m.getParameterCount() <= 7);
        }
        for (Class<?> inner : c.getDeclaredClasses()) {
            must(inner + " is static", Modifier.isStatic(inner.getModifiers()));
            must(inner + " is not public", !Modifier.isPublic(inner.getModifiers())
                && !Modifier.isProtected(inner.getModifiers()));
            insides(inner);
        }
    }

    private static void words() throws IOException {
        String text = Files.readString(Path.of("src/main/java/SmellBorders.java"));
        must("signs 1 to 127 alone", text.chars().allMatch(c -> c > 0 && c < 128));
        String code = text.replaceAll("(?s)/\\*.*?\\*/", "").replaceAll("//[^\n]*", "")
            .replaceAll("\"[^\"\n]*\"", "\"\"").replaceAll("'[^'\n]*'", "' '");
        for (String word : FORBIDDEN) {
            must("no word " + word, !code.matches("(?s).*\\b" + word + "\\b.*"));
        }
        must("no lambda, no method reference", !code.contains("->") && !code.contains("::"));
        must("no static block", !code.matches("(?s).*\\bstatic\\s*\\{.*"));
        must("twelve classes at most", code.split("\\bclass\\b", -1).length - 1 <= 12);
        library(code);
        depths(lengths(text.replaceAll("(?m)//.*$", "")));
    }

    /** All names of classes in the code are its own, or of the few calls of the library that rule 4 lists and it needs. */
    private static void library(String code) {
        Set<String> own = new TreeSet<>();
        Matcher declared = Pattern.compile("\\bclass (\\w+)").matcher(code);
        while (declared.find()) {
            own.add(declared.group(1));
        }
        Matcher named = Pattern.compile("\\b[A-Z]\\w*[a-z]\\w*(\\.\\w+\\()?").matcher(code);
        while (named.find()) {
            String name = named.group();
            boolean isOwn = own.contains(name.replaceAll("\\..*", ""));
            must(name + " is its own or listed", isOwn || LIBRARY.contains(name));
        }
    }

    /** A method of the class stands four blanks in, one of a class inside it eight; it ends at the brace below its head. */
    private static Map<String, List<String>> lengths(String text) {
        Map<String, List<String>> calls = new TreeMap<>();
        String[] lines = text.split("\n");
        for (int i = 0; i < lines.length; i++) {
            if (!lines[i].matches("( {4}| {8})\\w[^=;]*\\) \\{")) continue;
            String end = lines[i].replaceAll("\\w.*", "") + "}";
            int to = i;
            while (to < lines.length && !lines[to].equals(end)) {
                to++;
            }
            must("sixty lines at most:" + lines[i], to - i < 60);
            String name = lines[i].replaceAll("\\(.*", "").replaceAll(".*\\W", "");
            calls.computeIfAbsent(name, made -> new ArrayList<>())
                .addAll(called(String.join("\n", Arrays.copyOfRange(lines, i + 1, Math.min(to, lines.length)))));
        }
        return calls;
    }

    /** The names in front of brackets; one that is no method of the file, as the library's or super, is one deep. */
    private static List<String> called(String body) {
        List<String> names = new ArrayList<>();
        Matcher call = Pattern.compile("\\b(\\w+)\\(").matcher(body);
        while (call.find()) {
            names.add(call.group(1));
        }
        return names;
    }

    /** Methods of one name count as one, so this may tell too much but never too little. */
    private static int depth(String name, Map<String, List<String>> calls, List<String> open) {
        if (open.contains(name)) {
            must("no recursion: " + open + " " + name, false);
            return 0;
        }
        int below = 0;
        open.add(name);
        for (String callee : calls.getOrDefault(name, List.of())) {
            below = Math.max(below, depth(callee, calls, open));
        }
        open.remove(name);
        return below + 1;
    }

    private static void depths(Map<String, List<String>> calls) {
        for (Method m : SmellBorders.class.getDeclaredMethods()) {
            if (!Modifier.isPublic(m.getModifiers())) continue;
            must("the body of " + m.getName() + " was seen", calls.containsKey(m.getName()));
            int deep = depth(m.getName(), calls, new ArrayList<>());
            must(m.getName() + " goes " + deep + " deep, eight at most", deep <= 8);
        }
    }

    /** The dearest calls again and again: none of them may make objects that grow with the calls. */
    private static void room() {
        com.sun.management.ThreadMXBean memory = (com.sun.management.ThreadMXBean) ManagementFactory.getThreadMXBean();
        dearestCalls();
        long before = memory.getThreadAllocatedBytes(Thread.currentThread().getId());
        dearestCalls();
        long bytes = memory.getThreadAllocatedBytes(Thread.currentThread().getId()) - before;
        must("a run of the dearest calls makes " + bytes + " bytes, 20,000 at most", bytes <= 20000);
    }

    private static void dearestCalls() {
        SmellBorders x = new SmellBorders();
        for (char sign : new char[] {'.', '.', '.', '.', '/', '.', '.', '.', '.', ';', '1'}) x.letter(sign);
        x.valley();
        for (int i = 0; i < 6; i++) x.source(1 + i % 4, i % 3, i, 9 - i);
        for (int i = 0; i < 31; i++) {
            x.walls(7, i % 3, i % 2);
            x.unknown(i % 2);
            x.sniff();
        }
        for (int i = 0; i < 60; i++) {
            x.digest();
            x.days(60, i, 0);
            x.weakest(i % 8, i % 3, 0);
            x.hold(i % 8, i % 3);
            x.image();
            x.restore();
        }
    }

    public static void main(String[] args) throws IllegalAccessException, IOException {
        face();
        insides(SmellBorders.class);
        words();
        room();
        System.out.println(wrong == 0 ? "the face and the rules hold" : wrong + " rules do not hold");
        if (wrong != 0) System.exit(1);
    }
}
