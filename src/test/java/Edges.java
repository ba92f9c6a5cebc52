import java.lang.reflect.InvocationTargetException;
import java.lang.reflect.Method;
import java.lang.reflect.Modifier;
import java.util.Arrays;
import java.util.Comparator;
import java.util.function.IntSupplier;

/**
 * What the tests of the document's edges share. A test is a static method whose name begins with "promise", the promise's
 * number in two digits and what the sentence says that it holds to.
 */
class Edges {
    static final int NONE = -1;
    static final int LEAST = Integer.MIN_VALUE;
    static final int MOST = Integer.MAX_VALUE;
    static final int PROMISES = 35;
    static final int WHATS = 14;

    /** Ten bytes; what follows them begins at place 10. */
    static final String ONE_ONE = "house 1 1;";
    /** Lodgers who seek by hand or not at all. */
    static final String DARK_TWO = "house 2 0;lodger 9 5;lodger 9 5";
    static final String DARK_THREE = DARK_TWO + ";lodger 9 5";
    static final String DARK_FOUR = DARK_THREE + ";lodger 9 5";
    static final String DARK_SIX = DARK_FOUR + ";lodger 9 5;lodger 9 5";

    private static final int[] TESTS_OF = new int[PROMISES + 1];
    private static String test = "";
    private static int tests;
    private static int answers;
    private static int failed;

    static void due(String call, int got, int want) {
        answers++;
        if (got != want) {
            tellFailed(call + " answered " + got + ", due is " + want);
        }
    }

    static void dueSame(String call, String got, String want) {
        answers++;
        if (!got.equals(want)) {
            tellFailed(call + " left " + got + ", due is " + want);
        }
    }

    static void dueFault(String text, int got, int place, int kind) {
        due("'" + text + "'", got, fault(place, kind));
    }

    private static void tellFailed(String why) {
        failed++;
        if (failed <= 60) {
            System.out.println(test + ": " + why);
        }
    }

    static int fault(int place, int kind) {
        return -2 - (1 + 8 * place + kind);
    }

    static String times(String text, int n) {
        return text.repeat(n);
    }

    static SoughtHouse told(String house) {
        SoughtHouse x = Check.told(house);
        due("a house stands after '" + house + "'", x.count(0) > 0 ? 1 : 0, 1);
        return x;
    }

    static SoughtHouse ruled(String house, String rule) {
        SoughtHouse x = told(house);
        due("rule '" + rule + "'", Check.rule(x, rule), 0);
        due("force(0)", x.force(0), NONE);
        return x;
    }

    static void hours(SoughtHouse x, int n) {
        for (int k = 0; k < n; k++) {
            x.hour();
        }
    }

    /** Whom each lodger seeks, from lodger 0 on. */
    static void dueSought(SoughtHouse x, int... want) {
        for (int k = 0; k < want.length; k++) {
            due("lodger(" + k + ", 3) in HOUR " + x.count(5), x.lodger(k, 3), want[k]);
        }
    }

    /** What one lodger answers, from what 0 on. */
    static void dueLodger(SoughtHouse x, int lodger, int... want) {
        for (int k = 0; k < want.length; k++) {
            due("lodger(" + lodger + ", " + k + ") in HOUR " + x.count(5), x.lodger(lodger, k), want[k]);
        }
    }

    /** All that can be seen of an object, so that what a call leaves can be held against what was. */
    static String figure(SoughtHouse x) {
        StringBuilder all = new StringBuilder("counts");
        for (int what = 0; what < WHATS; what++) {
            all.append(' ').append(x.count(what));
        }
        for (int lodger = 0; lodger < 6; lodger++) {
            all.append(" lodger ").append(lodger);
            for (int what = 0; what < 5; what++) {
                all.append(' ').append(x.lodger(lodger, what));
            }
            for (int other = 0; other < 6; other++) {
                all.append(' ').append(x.dear(lodger, other));
            }
        }
        all.append(" notes ").append(x.ruled(0)).append(' ').append(x.ruled(1));
        return all.append(" ahead ").append(x.strangers(2, 30, 50, 0)).append(' ').append(x.ahead(0, 30, 0)).toString();
    }

    /** Of a call by which nothing may happen. */
    static void dueRefused(SoughtHouse x, String call, IntSupplier asked, int want) {
        String was = figure(x);
        due(call, asked.getAsInt(), want);
        dueSame(call, figure(x), was);
    }

    static void runAll(Class<?>... parts) {
        for (Class<?> part : parts) {
            Method[] methods = part.getDeclaredMethods();
            Arrays.sort(methods, Comparator.comparing(Method::getName));
            for (Method method : methods) {
                if (method.getName().startsWith("promise") && Modifier.isStatic(method.getModifiers())) {
                    runOne(method);
                }
            }
        }
    }

    private static void runOne(Method method) {
        test = method.getName();
        tests++;
        int before = answers;
        TESTS_OF[Integer.parseInt(test.substring(7, 9))]++;
        try {
            method.invoke(null);
        } catch (IllegalAccessException e) {
            tellFailed("can't be run");
        } catch (InvocationTargetException e) {
            tellFailed("threw " + e.getCause());
        }
        if (answers == before) {
            tellFailed("asks nothing");
        }
    }

    static void close() {
        for (int k = 1; k <= PROMISES; k++) {
            test = "promise " + k;
            due("whether it has a test", TESTS_OF[k] > 0 ? 1 : 0, 1);
        }
        System.out.println("EdgeTest: " + tests + " tests, " + answers + " answers, " + failed + " failed");
        if (failed != 0) {
            System.exit(1);
        }
    }
}
