import java.io.IOException;
import java.lang.reflect.Method;
import java.lang.reflect.Modifier;
import java.nio.file.Files;
import java.nio.file.Path;
import java.util.ArrayList;
import java.util.List;
import java.util.Set;
import java.util.TreeSet;
import java.util.regex.Matcher;
import java.util.regex.Pattern;
import java.util.stream.Collectors;
import java.util.stream.Stream;

/** The example of README.md: its calls are made here, and stand there with the answers that they have here. */
public final class ReadmeTest {
    private static final Check CHECK = new Check("ReadmeTest");
    private static final Path ROOT = Path.of(System.getProperty("project.root", "."));

    private static final List<String> MADE = new ArrayList<>();

    public static void main(String[] args) throws IOException {
        example();
        String page = Files.readString(ROOT.resolve("README.md"));
        theExampleStandsThere(page);
        eachCallIsNamed(page);
        eachTestIsNamed(page);
        eachRefusalIsNamed(page);
        CHECK.end();
    }

    private static void due(String call, long got, long want) {
        CHECK.due(call, got, want);
        MADE.add(call + " " + got);
    }

    private static void example() {
        CHECK.sentence("the example");
        PigeonMail mail = new PigeonMail();
        String text = "M3La20Li52C01";
        for (int i = 0; i < text.length(); i++) {
            CHECK.due("write", mail.write(text.charAt(i)), i + 1);
        }
        due("fault()", mail.fault(), PigeonMail.NONE);
        due("room()", mail.room(), 21);
        due("hatches(1)", mail.hatches(1), 2);
        due("hatches(0)", mail.hatches(0), PigeonMail.NONE);
        due("quiet()", mail.quiet(), 2);
        due("day()", mail.day(), 0);
        due("about(5)", mail.about(5), 1);
        due("put(1, 0)", mail.put(1, 0), 8);
        due("put(0, 5)", mail.put(0, 5), PigeonMail.LATE);
        due("undo()", mail.undo(), 1);
        due("send(0, 2)", mail.send(0, 2), 0);
        due("judge(2, 41010000L)", mail.judge(2, 41010000L), 0);
        due("judge(2, 4101L)", mail.judge(2, 4101L), PigeonMail.NONE);
        due("keep(1)", mail.keep(1), 1);
        due("day()", mail.day(), 0);
        due("again(1)", mail.again(1), 1);
        due("letter(2, 0)", mail.letter(2, 0), PigeonMail.UNKNOWN);
    }

    private static void theExampleStandsThere(String page) {
        CHECK.sentence("README.md's example");
        List<String> told = new ArrayList<>();
        Matcher m = Pattern.compile("(?m)^mail\\.(\\w+\\(.*?\\)); *// (-?\\d+):").matcher(page);
        while (m.find()) {
            told.add(m.group(1) + " " + m.group(2));
        }
        if (!told.equals(MADE)) {
            CHECK.fail("it tells " + told + ", made here are " + MADE);
        }
        int calls = page.split("(?m)^ *mail\\.", -1).length - 1;
        CHECK.due("its calls, that which writes among them", calls, MADE.size() + 1);
        CHECK.due("its text stands there", page.contains("String text = \"M3La20Li52C01\";") ? 1 : 0, 1);
    }

    private static void eachCallIsNamed(String page) {
        CHECK.sentence("README.md names");
        for (Method m : PigeonMail.class.getDeclaredMethods()) {
            if (Modifier.isPublic(m.getModifiers())) {
                CHECK.due(m.getName(), page.contains("`" + m.getName() + "`") ? 1 : 0, 1);
            }
        }
    }

    private static void eachTestIsNamed(String page) throws IOException {
        CHECK.sentence("README.md names each test, and no other");
        Set<String> there;
        try (Stream<Path> files = Files.list(ROOT.resolve("src/test/java"))) {
            there = files.map(f -> f.getFileName().toString()).filter(f -> f.endsWith("Test.java"))
                    .map(f -> f.replace(".java", "")).collect(Collectors.toCollection(TreeSet::new));
        }
        Set<String> told = new TreeSet<>();
        Matcher m = Pattern.compile("(?m)^\\| (\\w+Test) \\| .").matcher(page);
        while (m.find()) {
            told.add(m.group(1));
        }
        if (!told.equals(there)) {
            CHECK.fail("it tells of " + told + ", there are " + there);
        }
    }

    private static void eachRefusalIsNamed(String page) {
        CHECK.sentence("README.md tells the refusals");
        String[] told = {"`UNKNOWN` " + PigeonMail.UNKNOWN, "`BAD` " + PigeonMail.BAD, "`LATE` " + PigeonMail.LATE,
            "`FULL` " + PigeonMail.FULL, "`NONE` (" + PigeonMail.NONE + ")", "changes nothing", "512 calls", ".ci/run"};
        for (String t : told) {
            CHECK.due(t, page.contains(t) ? 1 : 0, 1);
        }
    }
}
