import java.lang.reflect.InvocationTargetException;
import java.lang.reflect.Method;
import java.util.ArrayList;
import java.util.Arrays;
import java.util.Comparator;
import java.util.List;

/** What the case tests share: each case is a static method that is named after its promise and what it shows. */
final class Cases {
    static final int NONE = -1, UNKNOWN = -1000000001, OUTSIDE = -1000000002, NOT = -1000000003, FULL = -1000000004;
    private static final List<String> COMPLAINTS = new ArrayList<>();

    private Cases() {
    }

    static void due(String what, long got, long want) {
        if (got != want) {
            COMPLAINTS.add(what + " answered " + got + ", due is " + want);
        }
    }

    static void same(String what, String got, String want) {
        if (!got.equals(want)) {
            COMPLAINTS.add(what + ": " + got + ", due is " + want);
        }
    }

    static void tell(AbsentPraise x, String text) {
        for (int i = 0; i < text.length(); i++) {
            due("feed(" + text.charAt(i) + ")", x.feed(text.charAt(i)), i + 1);
        }
    }

    static AbsentPraise hillOf(String text, int persons) {
        AbsentPraise x = new AbsentPraise();
        tell(x, text);
        due("hill() of '" + text + "'", x.hill(), persons);
        return x;
    }

    /** What a text answers on a new object. */
    static int answerOf(String text) {
        AbsentPraise x = new AbsentPraise();
        tell(x, text);
        return x.hill();
    }

    /** All that can be seen of an object, as text, in fewer than a hundred and fifty calls; it is left as it was. */
    static String seen(AbsentPraise x) {
        StringBuilder all = new StringBuilder();
        for (int what = 0; what <= 13; what++) {
            all.append(x.told(what)).append(' ');
        }
        for (int r = 0; r < x.told(0); r++) {
            all.append('|');
            for (int what = 0; what <= 2; what++) {
                all.append(x.room(r, what)).append(' ');
            }
        }
        for (int p = 0; p < x.told(4); p++) {
            all.append('/');
            for (int what = 0; what <= 4; what++) {
                all.append(x.person(p, what)).append(' ');
            }
            for (int q = 0; q < x.told(4); q++) {
                all.append(x.liking(p, q)).append(' ');
            }
        }
        int seed = x.seed(0);
        x.seed(seed);
        all.append("thinks ").append(x.thinks(0)).append(' ').append(x.thinks(1)).append(' ').append(x.thinks(2));
        return all.append(" judge ").append(x.judge()).append(" fault ").append(x.fault()).append(" seed ").append(seed).toString();
    }

    /** The least seed from which the DRAWS of the first row are those of the second. */
    static int seedFor(int[] of, int[] drawn) {
        for (int seed = 0; seed < 1000000; seed++) {
            long state = seed;
            boolean fits = true;
            for (int i = 0; i < of.length && fits; i++) {
                state = nextSeed(state);
                fits = state / 65536 % of[i] == drawn[i];
            }
            if (fits) {
                return seed;
            }
        }
        throw new IllegalStateException("no seed draws " + Arrays.toString(drawn));
    }

    static long nextSeed(long seed) {
        return (seed * 1103515245L + 12345L) % 2147483648L;
    }

    static long seedBehind(long seed, int draws) {
        long state = seed;
        for (int i = 0; i < draws; i++) {
            state = nextSeed(state);
        }
        return state;
    }

    /** Runs all cases of a test, each by itself; ends the program with 1 if one fails. */
    static void run(Class<?> test) throws IllegalAccessException {
        Method[] methods = test.getDeclaredMethods();
        Arrays.sort(methods, Comparator.comparing(Method::getName));
        int cases = 0;
        int failed = 0;
        for (Method method : methods) {
            if (method.getName().startsWith("promise")) {
                cases++;
                failed += passes(method) ? 0 : 1;
            }
        }
        System.out.println(test.getSimpleName() + ": " + cases + " cases, " + failed + " failed");
        if (failed > 0 || cases == 0) {
            System.exit(1);
        }
    }

    private static boolean passes(Method method) throws IllegalAccessException {
        COMPLAINTS.clear();
        try {
            method.invoke(null);
        } catch (InvocationTargetException e) {
            COMPLAINTS.add("threw " + e.getCause());
        }
        for (String complaint : COMPLAINTS) {
            System.out.println(method.getName() + ": " + complaint);
        }
        return COMPLAINTS.isEmpty();
    }
}
