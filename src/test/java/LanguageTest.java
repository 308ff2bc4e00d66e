import java.io.IOException;
import java.lang.reflect.Constructor;
import java.lang.reflect.Field;
import java.lang.reflect.Method;
import java.lang.reflect.Modifier;
import java.nio.file.Files;
import java.nio.file.Path;
import java.util.Set;
import java.util.TreeSet;
import java.util.regex.Matcher;
import java.util.regex.Pattern;

/** What of ../shared/LANGUAGE.md can be seen from outside: the face, and the words that the source may not have. */
public final class LanguageTest {
    private static final String FACE = "ask bestRoom carried cough drift fault feed go goBack hale hill hour judge keep leavers like liking"
        + " listens note person room route said seed silent tear thinks told undo warm write";
    private static final String CONSTANTS = "FULL NONE NOT OUTSIDE UNKNOWN";
    private static final int MOST_LINES_OF_A_METHOD = 60;
    private static int wrong = 0;

    private static void check(boolean good, String complaint) {
        if (!good) {
            wrong++;
            System.out.println(complaint);
        }
    }

    private static void checkFace() {
        Set<String> publicMethods = new TreeSet<>();
        Set<String> otherMethods = new TreeSet<>();
        for (Method m : AbsentPraise.class.getDeclaredMethods()) {
            boolean open = Modifier.isPublic(m.getModifiers());
            check(open || Modifier.isPrivate(m.getModifiers()), m + " is neither public nor private");
            (open ? publicMethods : otherMethods).add(m.getName());
        }
        check(String.join(" ", publicMethods).equals(FACE), "the public methods are " + publicMethods);
        otherMethods.retainAll(publicMethods);
        check(otherMethods.isEmpty(), "private ones have public names: " + otherMethods);
        Set<String> publicFields = new TreeSet<>();
        for (Field f : AbsentPraise.class.getDeclaredFields()) {
            check(!Modifier.isStatic(f.getModifiers()) || Modifier.isFinal(f.getModifiers()), f + " is static and not final");
            if (!Modifier.isPrivate(f.getModifiers())) {
                publicFields.add(f.getName());
            }
        }
        check(String.join(" ", publicFields).equals(CONSTANTS), "the open fields are " + publicFields);
        Constructor<?>[] made = AbsentPraise.class.getConstructors();
        check(made.length == 1 && made[0].getParameterCount() == 0, "one public constructor without parameters is due");
        check(Modifier.isFinal(AbsentPraise.class.getModifiers()), "the class is not final");
        check(AbsentPraise.class.getPackageName().isEmpty(), "the class is in a package");
    }

    private static void checkInside() {
        Class<?>[] inside = AbsentPraise.class.getDeclaredClasses();
        check(inside.length <= 11, "more than 12 classes");
        for (Class<?> c : inside) {
            check(Modifier.isStatic(c.getModifiers()) && !Modifier.isPublic(c.getModifiers()), c + " is not static, or public");
            check(c.getDeclaredFields().length <= 20, c + " has too many fields");
            for (Method m : c.getDeclaredMethods()) {
                check(m.getParameterCount() <= 7, m + " takes too many parameters");
                check(!(" " + FACE + " ").contains(" " + m.getName() + " "), m + " has a name of the face");
            }
        }
    }

    private static void checkWords(String source) {
        String bare = source.replaceAll("(?s)/\\*.*?\\*/", "").replaceAll("//[^\n]*", "");
        Matcher forbidden = Pattern.compile("\\b(throw|throws|try|catch|finally|synchronized|assert|float|double|equals|hashCode|toString|yield"
            + "|System\\.(?!arraycopy)\\w+|Object|\\w+Exact|\\w*Exception|package|native|volatile|transient)\\b|->|::").matcher(bare);
        while (forbidden.find()) {
            check(false, "the source has '" + forbidden.group() + "'");
        }
        Matcher imports = Pattern.compile("import ([^;]*);").matcher(bare);
        while (imports.find()) {
            check(imports.group(1).equals("java.util.Arrays"), "import of " + imports.group(1));
        }
        check(source.chars().allMatch(c -> c == '\n' || c >= 32 && c < 127), "a sign that is not plain");
    }

    private static void checkLengths(String source) {
        int lines = 0;
        for (String line : source.split("\n")) {
            boolean head = line.matches("(    ){1,2}[\\w<\\[].*\\) \\{");
            boolean end = line.matches("(    ){1,2}\\}");
            lines = head ? 1 : end ? 0 : lines + (lines > 0 ? 1 : 0);
            check(lines <= MOST_LINES_OF_A_METHOD, "a method is long at: " + line);
        }
    }

    public static void main(String[] args) throws IOException {
        String source = Files.readString(Path.of("src/main/java/AbsentPraise.java"));
        checkFace();
        checkInside();
        checkWords(source);
        checkLengths(source);
        System.out.println(wrong == 0 ? "the rules of the language hold" : wrong + " breaches");
        if (wrong != 0) {
            System.exit(1);
        }
    }
}
