import java.lang.reflect.Constructor;
import java.lang.reflect.Field;
import java.lang.reflect.Member;
import java.lang.reflect.Method;
import java.lang.reflect.Modifier;
import java.nio.file.Files;
import java.nio.file.Path;
import java.util.ArrayList;
import java.util.Collections;
import java.util.HashMap;
import java.util.HashSet;
import java.util.List;
import java.util.Map;
import java.util.Set;
import java.util.regex.Matcher;
import java.util.regex.Pattern;

/** What can be seen from outside of the rules of LANGUAGE.md: the face, static state, words that are ruled out. */
public final class LanguageTest {
    private static final Check CHECK = new Check("LanguageTest");

    private static final String[] FACE = {
        "int about(int)", "int again(int)", "int ahead(int,int)", "int clerk(int,int)", "int day()", "int fault()",
        "int feed(int)", "int hatches(int)", "int hawks(int,int,boolean)", "int hole(int)", "int judge(int,long)",
        "int keep(int)", "int letter(int,int)", "int may(int)", "int put(int,int)", "int quiet()",
        "int rests(int,int,int)", "int room()", "int rows(boolean)", "int saved(int)", "int send(int,int)",
        "int share(int,boolean)", "int tell(int,int)", "int undo()", "int untell()", "int wipe()", "int write(int)",
        "int years(int)", "long seed(long)"};

    private static final String[] CONSTANTS = {"BAD = -2", "FULL = -4", "LATE = -3", "NONE = -9", "UNKNOWN = -1"};

    private static final int DEEPEST = 8;

    private static final String[] WORDS_RULED_OUT = {
        "throw", "throws", "try", "catch", "finally", "synchronized", "assert", "import", "package", "protected",
        "volatile", "transient", "native", "strictfp", "System\\.(?!arraycopy)\\w+", "Math\\.\\w*Exact",
        "Math\\.random", "Thread", "Random", "hashCode", "toString", "->", "::", "double", "float"};

    public static void main(String[] args) throws Exception {
        face();
        constants();
        members();
        for (Class<?> inner : PigeonMail.class.getDeclaredClasses()) {
            inner(inner);
        }
        source();
        CHECK.end();
    }

    private static void face() {
        List<String> seen = new ArrayList<>();
        for (Method m : PigeonMail.class.getDeclaredMethods()) {
            if (Modifier.isPublic(m.getModifiers())) {
                StringBuilder s = new StringBuilder(m.getReturnType() + " " + m.getName() + "(");
                for (Class<?> p : m.getParameterTypes()) {
                    s.append(s.charAt(s.length() - 1) == '(' ? "" : ",").append(p);
                }
                seen.add(s + ")");
            }
        }
        Collections.sort(seen);
        if (!seen.equals(List.of(FACE))) {
            CHECK.fail("the face is " + seen);
        }
        Constructor<?>[] makers = PigeonMail.class.getDeclaredConstructors();
        CHECK.due("constructors", makers.length, 1);
        CHECK.due("a public one without arguments", makers[0].getModifiers() + makers[0].getParameterCount(),
                Modifier.PUBLIC);
        CHECK.due("public and final", PigeonMail.class.getModifiers(), Modifier.PUBLIC | Modifier.FINAL);
        CHECK.due("public classes inside", PigeonMail.class.getClasses().length, 0);
        CHECK.due("no face but its own", PigeonMail.class.getInterfaces().length, 0);
    }

    private static void constants() throws Exception {
        List<String> seen = new ArrayList<>();
        for (Field f : PigeonMail.class.getFields()) {
            CHECK.due(f.getName() + " is an int", f.getType() == int.class ? 1 : 0, 1);
            CHECK.due(f.getName() + " is a constant", f.getModifiers(),
                    Modifier.PUBLIC | Modifier.STATIC | Modifier.FINAL);
            seen.add(f.getName() + " = " + f.get(null));
        }
        Collections.sort(seen);
        if (!seen.equals(List.of(CONSTANTS))) {
            CHECK.fail("the constants are " + seen);
        }
    }

    private static void members() {
        List<Member> all = new ArrayList<>(List.of(PigeonMail.class.getDeclaredFields()));
        all.addAll(List.of(PigeonMail.class.getDeclaredMethods()));
        for (Member m : all) {
            boolean ofTheFace = Modifier.isPublic(m.getModifiers());
            if (!ofTheFace && !Modifier.isPrivate(m.getModifiers()) && !m.isSynthetic()) {
                CHECK.fail(m.getName() + " can be seen from the package");
            }
        }
        for (Field f : PigeonMail.class.getDeclaredFields()) {
            field(f);
        }
        CHECK.due("classes inside, twelve at most",
                Math.max(12, PigeonMail.class.getDeclaredClasses().length), 12);
    }

    private static void field(Field f) {
        if (Modifier.isStatic(f.getModifiers()) && !Modifier.isFinal(f.getModifiers())) {
            CHECK.fail("static state: " + f);
        }
    }

    private static void inner(Class<?> inner) {
        CHECK.due("static: " + inner, Modifier.isStatic(inner.getModifiers()) ? 1 : 0, 1);
        int fields = 0;
        for (Field f : inner.getDeclaredFields()) {
            field(f);
            fields += Modifier.isStatic(f.getModifiers()) ? 0 : 1;
        }
        CHECK.due("twenty fields at most: " + inner, Math.max(20, fields), 20);
        for (Method m : inner.getDeclaredMethods()) {
            CHECK.due("seven parameters at most: " + m, Math.max(7, m.getParameterCount()), 7);
            for (String sign : FACE) {
                if (sign.contains(" " + m.getName() + "(")) {
                    CHECK.fail(m + " bears the name of a public method");
                }
            }
        }
        int seenFrom = inner.getModifiers() & (Modifier.PUBLIC | Modifier.PROTECTED);
        CHECK.due("private or seen from the package alone: " + inner, seenFrom, 0);
    }

    private static void source() throws Exception {
        Path root = Path.of(System.getProperty("project.root", "."));
        String text = Files.readString(root.resolve("src/main/java/PigeonMail.java"));
        String code = text.replaceAll("(?s)/\\*.*?\\*/", " ").replaceAll("//[^\n]*", " ");
        for (String word : WORDS_RULED_OUT) {
            String edge = Character.isLetter(word.charAt(0)) ? "\\b" : "";
            Matcher m = Pattern.compile(edge + word + edge).matcher(code);
            if (m.find()) {
                CHECK.fail("ruled out: " + m.group());
            }
        }
        // A new thing is made where the object is made, never by a call.
        Matcher made = Pattern.compile("(?m)^ {8,}.*\\bnew\\b.*$").matcher(code);
        while (made.find()) {
            String line = made.group().trim();
            if (!line.startsWith("private final") && !line.startsWith("this.")) {
                CHECK.fail("made outside of a constructor: " + line);
            }
        }
        lengths(text.split("\n"));
        depths(code.split("\n"));
    }

    private static boolean isHead(String line) {
        return line.matches("( {4}| {8})[a-zA-Z].*\\) \\{") && !line.trim().matches("(if|for|while|switch) .*");
    }

    /** How many lines a method has whose head is this line. */
    private static int lengthFrom(String[] lines, int head) {
        String end = lines[head].substring(0, lines[head].length() - lines[head].trim().length()) + "}";
        int length = 1;
        while (head + length < lines.length && !lines[head + length].equals(end)) {
            length++;
        }
        return length;
    }

    private static void lengths(String[] lines) {
        int methods = 0;
        for (int i = 0; i < lines.length; i++) {
            if (isHead(lines[i])) {
                int length = lengthFrom(lines, i);
                CHECK.due("sixty lines at most: " + lines[i].trim(), Math.max(60, length), 60);
                methods++;
            }
        }
        CHECK.due("methods are found, fifty at least", Math.min(50, methods), 50);
    }

    /** Methods of one name are taken for one, so that a chain may seem longer here than it is, never shorter. */
    private static void depths(String[] lines) {
        Pattern call = Pattern.compile("\\b(\\w+)\\(");
        Map<String, Set<String>> calls = new HashMap<>();
        for (int i = 0; i < lines.length; i++) {
            if (isHead(lines[i])) {
                Matcher head = call.matcher(lines[i]);
                String name = head.find() ? head.group(1) : "";
                Set<String> called = calls.computeIfAbsent(name, n -> new HashSet<>());
                for (int k = i + 1; k < i + lengthFrom(lines, i); k++) {
                    Matcher m = call.matcher(lines[k]);
                    while (m.find()) {
                        called.add(m.group(1));
                    }
                }
            }
        }
        int deepest = 0;
        for (String name : calls.keySet()) {
            deepest = Math.max(deepest, depth(calls, name, new ArrayList<>()));
        }
        CHECK.due("deep at most, " + DEEPEST, Math.max(DEEPEST, deepest), DEEPEST);
        CHECK.due("chains are found", Math.min(5, deepest), 5);
    }

    private static int depth(Map<String, Set<String>> calls, String name, List<String> open) {
        if (!calls.containsKey(name)) {
            return 0;
        }
        if (open.contains(name)) {
            CHECK.fail("recursion: " + open + " and " + name);
            return 0;
        }
        open.add(name);
        int deepest = 0;
        for (String next : calls.get(name)) {
            deepest = Math.max(deepest, depth(calls, next, open));
        }
        open.remove(open.size() - 1);
        return deepest + 1;
    }
}
