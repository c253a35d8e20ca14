import java.io.IOException;
import java.nio.charset.StandardCharsets;
import java.nio.file.Files;
import java.nio.file.Path;
import java.util.List;
import java.util.regex.Matcher;
import java.util.regex.Pattern;

/** The rules of LANGUAGE.md that can be told from the words of the program; a number in front is the rule's. */
public final class LanguageTest {
    private static final Path PROGRAM = Path.of("src/main/java/BatchPlans.java");
    private static final int MOST_CLASSES = 12;
    private static final int MOST_LINES = 60;
    private static final int MOST_PARAMETERS = 7;

    /** Rule, what it forbids, as a pattern. */
    private static final String[][] FORBIDDEN = {
        {"0 package", "(?m)^package\\b"},
        {"2 lambda or method reference", "->|::"},
        {"3 array of three dimensions", "\\[\\]\\[\\]\\[\\]"},
        {"4 import", "(?m)^import (?!java\\.util\\.(ArrayList|Arrays|List|Iterator|NoSuchElementException);)"},
        {"4 System", "\\bSystem\\.(?!arraycopy\\b)"},
        {"4 Arrays", "\\bArrays\\.(?!(copyOf|copyOfRange|fill)\\b)"},
        {"4 Math", "\\w*Exact\\("},
        {"4 annotation", "@"},
        {"5 static field that is not final", "(?m)^\\s*(private |public )?static (?!final |abstract |.*\\()"},
        {"5 static initialiser", "\\bstatic \\{"},
        {"6 exception that is not made where it is thrown", "\\bthrow (?!new \\w+\\((\"[^\"]*\")?\\);)"},
        {"6 word", "\\b(finally|synchronized|assert|equals|hashCode|toString|getMessage)\\b"},
        {"1 word", "\\bprotected\\b"},
        {"13 word", "\\b(Random|Thread|Runtime|File|Files|Path|currentTimeMillis|nanoTime)\\b"},
        {"0 character beyond 127", "[^\\x00-\\x7F]"},
    };

    public static void main(String[] args) throws IOException {
        String program = Files.readString(PROGRAM, StandardCharsets.UTF_8);
        String code = program.replaceAll("(?s)/\\*.*?\\*/", "").replaceAll("//[^\n]*", "");
        for (String[] rule : FORBIDDEN) {
            Check.note("rule " + rule[0], found(rule[1], code), "nothing");
        }
        long classes = Pattern.compile("\\b(class|record|enum|interface) \\w+").matcher(code).results().count();
        Check.note("rule 11 classes: " + classes, Boolean.toString(classes <= MOST_CLASSES), "true");
        checkMethods(code);
        Check.end();
    }

    private static String found(String pattern, String code) {
        Matcher matcher = Pattern.compile(pattern).matcher(code);
        return matcher.find() ? matcher.group().trim() : "nothing";
    }

    /** A method's lines are those from its head to the brace that stands as far in as the head does. */
    private static void checkMethods(String code) {
        Matcher heads = Pattern.compile("(?m)^((?: {4})+)[\\w<>\\[\\] ]*\\w\\(([^;{}]*)\\)[^;{}]*\\{$").matcher(code);
        int methods = 0;
        while (heads.find()) {
            String head = heads.group().trim();
            if (head.matches("(?s)(if|for|while|switch|} else)\\b.*")) {
                continue;
            }
            methods++;
            int close = code.indexOf("\n" + heads.group(1) + "}", heads.start());
            List<String> lines = code.substring(heads.start(), close).lines().toList();
            Check.note("rule 11 length of " + head, Boolean.toString(lines.size() < MOST_LINES), "true");
            Check.note("rule 11 parameters of " + head,
                    Boolean.toString(heads.group(2).split(",").length <= MOST_PARAMETERS), "true");
        }
        Check.note("methods are found", Boolean.toString(methods > 20), "true");
    }
}
