import java.io.IOException;
import java.lang.reflect.Field;
import java.lang.reflect.Method;
import java.lang.reflect.Modifier;
import java.nio.file.Files;
import java.nio.file.Path;
import java.util.Set;
import java.util.regex.Matcher;
import java.util.regex.Pattern;

/** The rules of LANGUAGE.md that can be seen in the file's text or in its compiled members. */
public final class LanguageTest {
    private static final Path SOURCE = Path.of("src/main/java/TextureUnits.java");

    /**
     * Rules 2, 4, 5, 6 and 13. Stricter than rule 6 in two ways: no catch at all, as nothing is called
     * whose throw is to be caught, and no equals, as the class holds no texts.
     */
    private static final String[] RULED_OUT = {
        "\\bpackage\\b", "\\btry\\b", "\\bcatch\\b", "\\bfinally\\b", "\\bsynchronized\\b", "\\bassert\\b",
        "->", "::", "\\bstatic\\s*\\{", "Exact\\s*\\(", "\\bSystem\\b",
        "\\bThread\\b", "\\bRandom\\b", "\\bhashCode\\b", "\\btoString\\b", "\\bequals\\b"};

    private static final Set<String> THROWN =
        Set.of("IllegalArgumentException", "IndexOutOfBoundsException", "NoSuchElementException");

    /** What the two constructors make; that no call makes more is told by the texts and by their count. */
    private static final Set<String> MADE = Set.of("int[WORDS]", "Unit[UNITS]", "Unit()",
        "int[CHANNELS]", "int[GREATEST_LEVELS + 1]");
    private static final int MADE_PLACES = 7;

    public static void main(String[] args) throws IOException {
        String code = withoutComments(Files.readString(SOURCE));
        nothingRuledOut(code);
        imports(code);
        whatIsMade(code);
        members(TextureUnits.class);
        for (Class<?> inside : TextureUnits.class.getDeclaredClasses()) {
            members(inside);
            if (!Modifier.isStatic(inside.getModifiers()) || Modifier.isPublic(inside.getModifiers())
                    || Modifier.isProtected(inside.getModifiers())) {
                Check.say("rule 1: " + inside);
            }
        }
        Check.end();
    }

    private static String withoutComments(String text) {
        return text.replaceAll("(?s)/\\*.*?\\*/", " ").replaceAll("//[^\n]*", " ");
    }

    private static void nothingRuledOut(String code) {
        for (String word : RULED_OUT) {
            if (Pattern.compile(word).matcher(code).find()) {
                Check.say("the class has " + word);
            }
        }
    }

    private static void imports(String code) {
        Matcher m = Pattern.compile("import ([^;]+);").matcher(code);
        while (m.find()) {
            if (!m.group(1).equals("java.util.NoSuchElementException")) {
                Check.say("rule 4: import " + m.group(1));
            }
        }
    }

    private static void whatIsMade(String code) {
        Matcher m = Pattern.compile("(throw )?new (\\w+)(\\([^)]*\\)|\\[[^\\]]*\\])").matcher(code);
        int places = 0;
        while (m.find()) {
            places += m.group(1) == null ? 1 : 0;
            boolean fine = m.group(1) == null
                ? MADE.contains(m.group(2) + m.group(3))
                : THROWN.contains(m.group(2)) && m.group(3).matches("\\((\"[^\"]*\")?\\)");
            if (!fine) {
                Check.say("rules 6 and 12: " + m.group());
            }
        }
        Check.due("places where the class makes something", places, MADE_PLACES);
    }

    /** Rules 5 and 11. */
    private static void members(Class<?> type) {
        int fields = 0;
        for (Field f : type.getDeclaredFields()) {
            boolean constant = Modifier.isStatic(f.getModifiers());
            if (constant && !Modifier.isFinal(f.getModifiers())) {
                Check.say("rule 5: " + f);
            }
            fields += constant ? 0 : 1;
        }
        if (fields > 20) {
            Check.say("rule 11: " + fields + " fields in " + type);
        }
        for (Method m : type.getDeclaredMethods()) {
            if (m.getParameterCount() > 7) {
                Check.say("rule 11: " + m);
            }
        }
    }
}
