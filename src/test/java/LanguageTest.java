import java.io.IOException;
import java.lang.reflect.Field;
import java.lang.reflect.Method;
import java.lang.reflect.Modifier;
import java.nio.file.Files;
import java.nio.file.Path;
import java.util.Arrays;
import java.util.Set;
import java.util.TreeSet;
import java.util.regex.Matcher;
import java.util.regex.Pattern;

/** The face, and those rules of LANGUAGE.md that can be told by the words of the file. */
public final class LanguageTest {
    private static final Due DUE = new Due("LanguageTest");
    private static final Path FILE = Path.of("src/main/java/MarriedMap.java");
    private static final String FORBIDDEN = "\\b(throw|throws|try|catch|finally|synchronized|assert|volatile|native"
            + "|package|Object|System\\.(?!arraycopy)\\w+|Exception|Error|Thread|Random|Exact)\\b|->|::";
    private static final int NO_PROMISE = 0;

    public static void main(String[] args) throws IOException {
        face();
        String code = Files.readString(FILE)
                .replaceAll("(?s)/\\*.*?\\*/", "").replaceAll("//[^\n]*", "").replaceAll("'.'", "0");
        DUE.is(NO_PROMISE, "rules 4, 6, 13: words that are not allowed", finds(FORBIDDEN, code), 0);
        DUE.is(NO_PROMISE, "rule 4: imports", finds("\\bimport\\b(?! java\\.util\\.Arrays;)", code), 0);
        DUE.is(NO_PROMISE, "rule 2: classes that are not static",
                finds("(?<!public final |private static final )class\\b", code), 0);
        DUE.is(NO_PROMISE, "rule 11: more than twelve classes", finds("\\bclass\\b", code) > 12 ? 1 : 0, 0);
        DUE.is(NO_PROMISE, "rule 11: more than seven parameters", finds("\\((\\w+\\W+\\w+, ){7}", code), 0);
        DUE.is(NO_PROMISE, "rule 5: static fields that are not final",
                finds("\\bstatic (?!final )[\\w\\[\\]]+ \\w+( =|;)", code), 0);
        lengths(code);
        DUE.end();
    }

    private static void face() {
        Set<String> open = new TreeSet<>();
        Set<String> hidden = new TreeSet<>();
        for (Method method : MarriedMap.class.getDeclaredMethods()) {
            (Modifier.isPrivate(method.getModifiers()) ? hidden : open).add(method.getName());
        }
        Set<String> due = new TreeSet<>(Calls.NAMES);
        due.add("digest");
        DUE.is(NO_PROMISE, "rule 1: the methods of the face, as " + open, open.equals(due) ? 1 : 0, 1);
        for (Class<?> inside : MarriedMap.class.getDeclaredClasses()) {
            for (Method method : inside.getDeclaredMethods()) {
                hidden.add(method.getName());
            }
            DUE.is(NO_PROMISE, "rule 11: more than twenty fields of " + inside, inside.getDeclaredFields().length > 20 ? 1 : 0, 0);
        }
        hidden.retainAll(due);
        DUE.is(NO_PROMISE, "rule 1: hidden methods with names of the face, as " + hidden, hidden.size(), 0);
        Set<String> constants = new TreeSet<>();
        for (Field field : MarriedMap.class.getDeclaredFields()) {
            if (!Modifier.isPrivate(field.getModifiers())) {
                constants.add(field.getName());
            }
        }
        DUE.is(NO_PROMISE, "rule 1: the constants of the face, as " + constants,
                constants.equals(new TreeSet<>(Arrays.asList("NONE", "BAD", "NOT", "FULL"))) ? 1 : 0, 1);
        int[] values = {MarriedMap.NONE, MarriedMap.BAD, MarriedMap.NOT, MarriedMap.FULL};
        for (int i = 0; i < values.length; i++) {
            DUE.is(NO_PROMISE, "constant " + i, values[i], -1 - i);
        }
    }

    private static int finds(String words, String code) {
        Matcher matcher = Pattern.compile(words).matcher(code);
        int found = 0;
        while (matcher.find()) {
            found++;
            if (found <= 3 && !words.equals("\\bclass\\b")) {
                System.out.println("found: " + matcher.group());
            }
        }
        return found;
    }

    /** Of what is indented as a method, how many lines it has. */
    private static void lengths(String code) {
        int begun = 0;
        String[] lines = code.split("\n", -1);
        for (int i = 0; i < lines.length; i++) {
            if (lines[i].matches(" {4}( {4})?[\\w\\[\\]]+ .*\\(.*\\{")) {
                begun = i;
            }
            if (lines[i].matches(" {4}( {4})?\\}") && i - begun > 60 && !lines[begun].contains("class")) {
                DUE.is(NO_PROMISE, "rule 11: the lines of " + lines[begun], i - begun, 60);
            }
        }
    }
}
