import com.sun.management.ThreadMXBean;
import java.io.IOException;
import java.lang.management.ManagementFactory;
import java.nio.charset.StandardCharsets;
import java.nio.file.Files;
import java.nio.file.Path;
import java.util.List;
import java.util.regex.Matcher;
import java.util.regex.Pattern;

/**
 * The rules of LANGUAGE.md that can be told from the words of the program, and the room that its calls take;
 * a number in front is the rule's.
 */
public final class LanguageTest {
    private static final Path PROGRAM = Path.of("src/main/java/BatchPlans.java");
    private static final int MOST_CLASSES = 12;
    private static final int MOST_LINES = 60;
    private static final int MOST_PARAMETERS = 7;
    private static final int MOST_BYTES = 200_000;

    /** Rule, what it forbids, as a pattern. */
    private static final String[][] FORBIDDEN = {
        {"0 package", "(?m)^package\\b"},
        {"2 lambda or method reference", "->|::"},
        {"3 array of three dimensions", "\\[\\]\\[\\]\\[\\]"},
        {"4 import", "(?m)^import (?!java\\.util\\.(ArrayList|Arrays|List|Iterator|NoSuchElementException);)"},
        {"4 System", "\\bSystem\\.(?!arraycopy\\b)"},
        {"4 Arrays", "\\bArrays\\.(?!(copyOf|copyOfRange|fill)\\b)"},
        {"4 Math", "\\w*Exact\\("},
        {"4 annotation", "@"},
        {"5 static field that is not final", "(?m)^\\s*(private |public )?static (?!final |abstract |.*\\()"},
        {"5 static initialiser", "\\bstatic \\{"},
        {"6 exception that is not made where it is thrown", "\\bthrow (?!new \\w+\\((\"[^\"]*\")?\\);)"},
        {"6 word", "\\b(finally|synchronized|assert|equals|hashCode|toString|getMessage)\\b"},
        {"1 word", "\\bprotected\\b"},
        {"13 word", "\\b(Random|Thread|Runtime|File|Files|Path|currentTimeMillis|nanoTime)\\b"},
        {"0 character beyond 127", "[^\\x00-\\x7F]"},
    };

    public static void main(String[] args) throws IOException {
        String program = Files.readString(PROGRAM, StandardCharsets.UTF_8);
        String code = program.replaceAll("(?s)/\\*.*?\\*/", "").replaceAll("//[^\n]*", "");
        for (String[] rule : FORBIDDEN) {
            Check.note("rule " + rule[0], found(rule[1], code), "nothing");
        }
        long classes = Pattern.compile("\\b(class|record|enum|interface) \\w+").matcher(code).results().count();
        Check.note("rule 11 classes: " + classes, Boolean.toString(classes <= MOST_CLASSES), "true");
        checkMethods(code);
        checkRoom();
        Check.end();
    }

    /** All calls of a run live in one room: an object and 512 calls that make or work out nodes stay far below it. */
    private static void checkRoom() {
        ThreadMXBean thread = (ThreadMXBean) ManagementFactory.getThreadMXBean();
        // Once before it is measured, so that no class is loaded then.
        makeNodes();
        workOutNodes();
        long before = thread.getCurrentThreadAllocatedBytes();
        makeNodes();
        long between = thread.getCurrentThreadAllocatedBytes();
        workOutNodes();
        long after = thread.getCurrentThreadAllocatedBytes();
        dueRoom("making nodes", between - before);
        dueRoom("working nodes out", after - between);
    }

    private static void dueRoom(String what, long bytes) {
        Check.note("rule 12 bytes of " + what + ": " + bytes, Boolean.toString(bytes < MOST_BYTES), "true");
    }

    private static void makeNodes() {
        BatchPlans x = new BatchPlans(1, 1);
        for (int calls = 0; calls < 512; calls++) {
            if (calls % 13 == 0) {
                x.clear(true);
            } else if (calls % 13 == 1) {
                x.scan(0);
            } else {
                x.join(0, 0, 0, 0);
            }
        }
    }

    /** Two groups of 128 keys are joined in 128 rows. */
    private static void workOutNodes() {
        BatchPlans x = new BatchPlans(1, 1);
        int keys = PlanCheck.numbered(x, 8, 16);
        int last = x.join(x.group(keys, 2, 0), x.group(keys, 2, 1), 0, 0);
        while (x.nodes() < 12) {
            last = x.map(last, 1, 2, 4);
        }
        for (int calls = 48; calls < 512; calls++) {
            x.run(last);
        }
    }

    private static String found(String pattern, String code) {
        Matcher matcher = Pattern.compile(pattern).matcher(code);
        return matcher.find() ? matcher.group().trim() : "nothing";
    }

    /** A method's lines are those from its head to the brace that stands as far in as the head does. */
    private static void checkMethods(String code) {
        Matcher heads = Pattern.compile("(?m)^((?: {4})+)[\\w<>\\[\\] ]*\\w\\(([^;{}]*)\\)[^;{}]*\\{$").matcher(code);
        int methods = 0;
        while (heads.find()) {
            String head = heads.group().trim();
            if (head.matches("(?s)(if|for|while|switch|} else)\\b.*")) {
                continue;
            }
            methods++;
            int close = code.indexOf("\n" + heads.group(1) + "}", heads.start());
            List<String> lines = code.substring(heads.start(), close).lines().toList();
            Check.note("rule 11 length of " + head, Boolean.toString(lines.size() < MOST_LINES), "true");
            Check.note("rule 11 parameters of " + head,
                    Boolean.toString(heads.group(2).split(",").length <= MOST_PARAMETERS), "true");
        }
        Check.note("methods are found", Boolean.toString(methods > 20), "true");
    }
}
