import java.io.IOException;
import java.nio.file.Files;
import java.nio.file.Path;
import java.util.ArrayDeque;
import java.util.Deque;
import java.util.Set;
import java.util.regex.Matcher;
import java.util.regex.Pattern;

/** What a look at the text of the class tells of the rules of LANGUAGE.md; run from the project's directory. */
public final class LanguageTest {
    private static final Checks CHECKS = new Checks("LanguageTest");
    private static final Path SOURCE = Path.of("src/main/java/ClubAcademy.java");
    private static final int MOST_LINES_OF_A_METHOD = 60;
    private static final int MOST_CLASSES = 12;

    /** Rules 2, 4, 6, 10 and 13, as far as a word or a sign shows that one is broken. */
    private static final String[] FORBIDDEN = {
        "\\bimport (?!java\\.util\\.)", "\\bpackage\\b", "->", "::", "@", "\\bfinally\\b", "\\bsynchronized\\b", "\\bassert\\b",
        "\\bvar\\b", "\\bnative\\b", "\\bvolatile\\b", "\\btransient\\b", "\\bprotected\\b", "\\bhashCode\\b",
        "\\bstatic\\s*\\{", "\\bprintStackTrace\\b", "\"\\s*\\+", "\\+\\s*\"", "\\w+Exact\\b"};

    /** The file's own classes; a new one is to be put in here. */
    private static final Set<String> OWN = Set.of("ClubAcademy", "Player", "Game", "Puzzle", "Line", "Book");
    private static final Set<String> LIBRARY = Set.of("String", "StringBuilder", "ArrayList", "List", "Integer", "Long", "Math",
        "Iterator", "Iterable", "Comparable", "System", "Arrays", "IllegalStateException", "IllegalArgumentException",
        "IndexOutOfBoundsException", "ArithmeticException", "UnsupportedOperationException", "NoSuchElementException",
        "RuntimeException");

    public static void main(String[] args) throws IOException {
        String code = withoutComments(Files.readString(SOURCE));
        for (String forbidden : FORBIDDEN) {
            CHECKS.due("the class holds " + forbidden, count(code, forbidden), 0);
        }
        signs(code);
        namesOfTypes(withoutTexts(code));
        staticFields(withoutTexts(code));
        lengthsOfMethods(withoutTexts(code));
        classes(withoutTexts(code));
        CHECKS.finish();
    }

    private static String withoutComments(String text) {
        // Each comment leaves its line ends, so that lengths of methods stay.
        Matcher comment = Pattern.compile("/\\*.*?\\*/|//[^\n]*", Pattern.DOTALL).matcher(text);
        return comment.replaceAll(found -> found.group().replaceAll("[^\n]", ""));
    }

    private static String withoutTexts(String code) {
        return code.replaceAll("\"[^\"\n]*\"", "\"\"");
    }

    private static int count(String code, String pattern) {
        int count = 0;
        Matcher found = Pattern.compile(pattern).matcher(code);
        while (found.find()) {
            count++;
        }
        return count;
    }

    /** Rule 4: the signs of constants are 1 to 127. */
    private static void signs(String code) {
        CHECKS.due("signs beyond 126", code.chars().filter(sign -> sign > 126).count(), 0);
    }

    /** Rule 4: no class but the file's own and those of the list. */
    private static void namesOfTypes(String code) {
        Matcher name = Pattern.compile("\\b[A-Z]\\w*[a-z]\\w*\\b").matcher(code);
        while (name.find()) {
            CHECKS.due(name.group() + " is known", OWN.contains(name.group()) || LIBRARY.contains(name.group()), true);
        }
    }

    /** Rule 5: fields that are static are final. */
    private static void staticFields(String code) {
        CHECKS.due("static fields that are not final", count(code, "(?m)\\bstatic (?!final )[^(\n]*[=;]"), 0);
    }

    /** Rule 11, and that braces are closed. */
    private static void lengthsOfMethods(String code) {
        Deque<Integer> open = new ArrayDeque<>();
        int longest = 0;
        String[] lines = code.split("\n");
        for (int i = 0; i < lines.length; i++) {
            for (char sign : lines[i].toCharArray()) {
                if (sign == '{') {
                    open.push(i);
                } else if (sign == '}') {
                    int begun = open.pop();
                    boolean ofClass = lines[begun].contains(" class ");
                    longest = ofClass ? longest : Math.max(longest, i - begun + 1);
                }
            }
        }
        CHECKS.due("braces left open", open.size(), 0);
        CHECKS.due("the longest method has " + longest + " lines", longest <= MOST_LINES_OF_A_METHOD, true);
    }

    private static void classes(String code) {
        int classes = count(code, "\\bclass\\b");
        CHECKS.due(classes + " classes", classes <= MOST_CLASSES, true);
        CHECKS.due("classes inside that are static and private", count(code, "private static (final |abstract )?class "), classes - 1);
        CHECKS.due("throw in a constructor", count(code, "(?m)^ {4,8}(public )?[A-Z]\\w*\\([^)]*\\) \\{[^}]*throw"), 0);
    }
}
