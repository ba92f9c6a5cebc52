import java.io.IOException;
import java.lang.reflect.Constructor;
import java.lang.reflect.Field;
import java.lang.reflect.Method;
import java.lang.reflect.Modifier;
import java.nio.file.Files;
import java.nio.file.Path;
import java.util.Set;
import java.util.TreeSet;

/** That the class has the document's face and no other, and that its source keeps to what LANGUAGE.md leaves. */
public final class FaceTest {
    private static final String[] FACE = {"feed 5", "end 1", "house 0", "rule 0", "force 1", "lodger 2", "dear 2", "hour 0", "bid 2",
        "call 1", "pay 3", "tire 2", "undo 0", "ahead 3", "rested 1", "chain 2", "lonely 0", "bestRow 1", "forOne 4", "torches 1",
        "out 2", "sleeps 2", "ring 1", "pennies 2", "rests 4", "stays 1", "note 3", "ruled 1", "look 1", "seed 1", "strangers 4",
        "count 1", "image 1", "back 1"};
    private static final String[] FORBIDDEN = {"throw", "throws", "try", "catch", "finally", "synchronized", "assert", "protected",
        "Exception", "Error", "System.out", "Random", "Thread", "hashCode", "toString", "package", "yield", "Exact"};

    private FaceTest() { }

    public static void main(String[] args) throws IOException {
        Check check = new Check();
        face(check);
        source(check, Files.readString(Path.of("src/main/java/SoughtHouse.java")));
        widest(check);
        check.close("FaceTest");
    }

    private static void face(Check check) {
        Class<?> c = SoughtHouse.class;
        check.due("final", Modifier.isFinal(c.getModifiers()) && Modifier.isPublic(c.getModifiers()) ? 1 : 0, 1);
        Set<String> want = new TreeSet<>(Set.of(FACE));
        Set<String> got = new TreeSet<>();
        for (Method m : c.getDeclaredMethods()) {
            if (!Modifier.isPrivate(m.getModifiers())) {
                boolean plain = m.getReturnType() == int.class && Modifier.isPublic(m.getModifiers()) && !Modifier.isStatic(m.getModifiers());
                got.add((plain ? "" : "strange ") + m.getName() + " " + m.getParameterCount());
            } else {
                check.due("a private " + m.getName(), want.stream().anyMatch(f -> f.startsWith(m.getName() + " ")) ? 1 : 0, 0);
            }
        }
        check.due("the face " + got, got.equals(want) ? 1 : 0, 1);
        for (Field f : c.getDeclaredFields()) {
            boolean isNone = f.getName().equals("NONE");
            check.due("field " + f.getName(), Modifier.isPublic(f.getModifiers()) == isNone && Modifier.isPrivate(f.getModifiers()) != isNone ? 1 : 0, 1);
            if (Modifier.isStatic(f.getModifiers())) {
                check.due("final " + f.getName(), Modifier.isFinal(f.getModifiers()) ? 1 : 0, 1);
            }
        }
        for (Constructor<?> k : c.getDeclaredConstructors()) {
            check.due("constructor", Modifier.isPublic(k.getModifiers()) ? k.getParameterCount() : 1, 0);
        }
        for (Class<?> inside : c.getDeclaredClasses()) {
            check.due("inside: " + inside.getName(), Modifier.isPrivate(inside.getModifiers()) && Modifier.isStatic(inside.getModifiers()) ? 1 : 0, 1);
            for (Method m : inside.getDeclaredMethods()) {
                check.due("parameters of " + m.getName(), m.getParameterCount() <= 7 ? 1 : 0, 1);
            }
        }
        check.due("classes", c.getDeclaredClasses().length < 12 ? 1 : 0, 1);
        check.due("NONE", SoughtHouse.NONE, -1);
    }

    private static void source(Check check, String source) {
        String code = source.replaceAll("(?s)/\\*.*?\\*/", "").replaceAll("//[^\n]*", "").replaceAll("\"[^\"]*\"", "\"\"");
        for (String word : FORBIDDEN) {
            check.due("the word " + word, code.matches("(?s).*\\b" + word.replace(".", "\\.") + "\\b.*") ? 1 : 0, 0);
        }
        check.due("no lambda", code.contains("->") ? 1 : 0, 0);
        check.due("no method reference", code.contains("::") ? 1 : 0, 0);
        check.due("nothing beyond 127", source.chars().anyMatch(s -> s > 127) ? 1 : 0, 0);
        int from = -1;
        String[] lines = source.split("\n");
        for (int k = 0; k < lines.length; k++) {
            if (lines[k].matches(" {4,8}\\S.*\\) \\{") && !lines[k].contains(" class ")) {
                from = k;
            } else if (from >= 0 && lines[k].matches(" {4,8}\\}")) {
                check.due("lines of " + lines[from].trim(), k - from < 62 ? 1 : 0, 1);
                from = -1;
            }
        }
    }

    /** Calls with all numbers at the edges of what a number can be, with and without a house: none may throw. */
    private static void widest(Check check) {
        int[] edges = {Integer.MIN_VALUE, -2, -1, 0, 1, 5, 6, 7, 61, Integer.MAX_VALUE};
        for (String text : new String[] {"", "house 1 1", "house 9 7;lodger 60 99", "house 1 7;lodger 1 1;lodger 2 2;dear 0 1 9;count 0"}) {
            SoughtHouse x = Check.told(text);
            for (Method m : SoughtHouse.class.getDeclaredMethods()) {
                if (Modifier.isPublic(m.getModifiers())) {
                    int n = m.getParameterCount();
                    for (int k = 0; k < Math.pow(edges.length, Math.min(n, 4)); k++) {
                        check.due(m.getName() + " throws", throwsOn(x, m, edges, k), 0);
                    }
                }
            }
        }
    }

    private static int throwsOn(SoughtHouse x, Method m, int[] edges, int k) {
        Object[] numbers = new Object[m.getParameterCount()];
        int rest = k;
        for (int i = 0; i < numbers.length; i++) {
            numbers[i] = edges[rest % edges.length];
            rest /= edges.length;
        }
        try {
            m.invoke(x, numbers);
            return 0;
        } catch (ReflectiveOperationException e) {
            System.out.println(e.getCause());
            return 1;
        }
    }
}
