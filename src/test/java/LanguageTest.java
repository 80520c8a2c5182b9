import java.lang.reflect.Constructor;
import java.lang.reflect.Field;
import java.lang.reflect.Method;
import java.lang.reflect.Modifier;
import java.nio.file.Files;
import java.nio.file.Path;
import java.util.ArrayList;
import java.util.List;
import java.util.regex.Matcher;
import java.util.regex.Pattern;

/** What of ../shared/LANGUAGE.md can be told from the source without comments and texts, and from the classes. */
public final class LanguageTest {
    /** Rules 2, 4, 6, 12, 13, and words that stand for what rule 3 leaves out. */
    private static final String[] NO_WORDS = {"package", "import", "synchronized", "assert", "finally", "try", "catch",
        "instanceof", "native", "transient", "volatile", "strictfp", "var", "yield", "Object", "equals", "hashCode",
        "toString", "Random", "Thread", "File", "nanoTime", "currentTimeMillis", "getMessage", "float"};
    private static final String[] NO_SIGNS = {"->", "::", "...", "@"};
    /** What the program uses of rule 4's list; a name is looked up there before it is added here. */
    private static final String[] LIBRARY = {"System.arraycopy", "Integer.bitCount", "Math.max"};
    private static final Pattern THROWN = Pattern.compile(
        "throw new (IllegalStateException|IllegalArgumentException|IndexOutOfBoundsException)\\(\"\"\\);");

    public static void main(String[] args) throws Exception {
        String source = withoutCommentsAndTexts(Files.readString(Path.of("src/main/java/ConcertUsher.java")));
        noWordsLeftOut(source);
        eachThrowIsPlain(source);
        onlyTheLibrary(source);
        List<Class<?>> classes = new ArrayList<>();
        classes.add(ConcertUsher.class);
        classes.addAll(List.of(ConcertUsher.class.getDeclaredClasses()));
        Check.due("rule 11: at most twelve classes", classes.size() <= 12, true);
        for (Class<?> each : classes) {
            sizes(each);
            staticFieldsAreConstants(each);
            if (each != ConcertUsher.class) {
                Check.due("rule 1: " + each + " is static", Modifier.isStatic(each.getModifiers()), true);
                Check.due("rule 1: " + each + " is not visible", each.getModifiers() & Modifier.PUBLIC, 0);
            }
        }
        methodsAreShort(source);
        Check.end("LanguageTest");
    }

    private static String withoutCommentsAndTexts(String source) {
        return source.replaceAll("(?s)/\\*.*?\\*/", "").replaceAll("//[^\n]*", "").replaceAll("\"[^\"\n]*\"", "\"\"");
    }

    private static boolean hasWord(String source, String word) {
        return Pattern.compile("\\b" + word + "\\b").matcher(source).find();
    }

    private static void noWordsLeftOut(String source) {
        for (String word : NO_WORDS) {
            Check.due("the source has the word " + word, hasWord(source, word), false);
        }
        for (String sign : NO_SIGNS) {
            Check.due("the source has the sign " + sign, source.contains(sign), false);
        }
        boolean joined = Pattern.compile("\"\" *\\+|\\+ *\"\"").matcher(source).find();
        Check.due("rule 10: texts are joined by +", joined, false);
    }

    /** Rule 6: a throw makes one of the exceptions that the document names. */
    private static void eachThrowIsPlain(String source) {
        Matcher any = Pattern.compile("\\bthrow\\b[^;]*;").matcher(source);
        while (any.find()) {
            Check.due("rule 6: " + any.group(), THROWN.matcher(any.group()).matches(), true);
        }
    }

    /** Rule 4: each name with a dot behind a class of another file is of the list. */
    private static void onlyTheLibrary(String source) {
        Matcher called = Pattern.compile("\\b([A-Z][a-z]\\w*)\\.(\\w+)").matcher(source);
        while (called.find()) {
            Check.due("rule 4: " + called.group(), List.of(LIBRARY).contains(called.group()), true);
        }
    }

    /** Rule 11: parameters and fields. */
    private static void sizes(Class<?> each) {
        int fields = 0;
        for (Field field : each.getDeclaredFields()) {
            fields += Modifier.isStatic(field.getModifiers()) ? 0 : 1;
        }
        Check.due("rule 11: " + each + " has at most twenty fields", fields <= 20, true);
        for (Method method : each.getDeclaredMethods()) {
            Check.due("rule 11: parameters of " + method, method.getParameterCount() <= 7, true);
        }
        for (Constructor<?> constructor : each.getDeclaredConstructors()) {
            Check.due("rule 11: parameters of " + constructor, constructor.getParameterCount() <= 7, true);
        }
    }

    /** Rule 5. */
    private static void staticFieldsAreConstants(Class<?> each) {
        for (Field field : each.getDeclaredFields()) {
            if (Modifier.isStatic(field.getModifiers())) {
                Check.due("rule 5: " + field + " is final", Modifier.isFinal(field.getModifiers()), true);
                Check.due("rule 5: " + field + " is an int", field.getType() == int.class, true);
            }
        }
    }

    /** Rule 11: a method begins at a line that ends with ") {", or with a throws clause, and ends with its indent. */
    private static void methodsAreShort(String source) {
        Pattern method = Pattern.compile("(?ms)^( {4}| {8})(?! )[^\n;=]*\\)[\\w ,]*\\{\n(.*?)^\\1\\}");
        Matcher each = method.matcher(source);
        int methods = 0;
        while (each.find()) {
            methods++;
            Check.due("rule 11: lines of " + each.group().split("\n")[0], each.group(2).split("\n").length <= 60, true);
        }
        Check.due("rule 11: methods are found", methods > 50, true);
    }

    private LanguageTest() {
    }
}
