import java.lang.reflect.Field;
import java.lang.reflect.Method;
import java.lang.reflect.Modifier;
import java.util.ArrayList;
import java.util.List;
import java.util.Set;
import java.util.TreeSet;
import java.util.regex.Matcher;
import java.util.regex.Pattern;

/** The rules of LANGUAGE.md, as far as a program can look at them; each test bears its rule's number. */
public final class LanguageTest extends Machines {
    /** The source without comments: the rules bind the code alone. */
    private static final String CODE = Sentence.text("src/main/java/UseOnceMachine.java")
        .replaceAll("(?s)/\\*.*?\\*/", "").replaceAll("//.*", "");
    private static final List<Class<?>> CLASSES = classes();

    /** What the class may use of Java's library; it needs no more than this now. */
    private static final Set<String> LIBRARY = Set.of("Arrays.fill", "System.arraycopy", "Math.min", "Math.max", "Math.floorMod",
        "Integer.bitCount");

    public static void main(String[] args) {
        Sentence.rule("rule 1", "No private method bears the name of a public one.", LanguageTest::names);
        Sentence.rule("rule 2", "No inner class that isn't static, no local or anonymous class, no lambda, no method reference.",
            LanguageTest::classesInside);
        Sentence.rule("rule 4", "The library: only what stands here.", LanguageTest::library);
        Sentence.rule("rule 5", "Static fields are final: constants of int, long, boolean, char or String", LanguageTest::staticFields);
        Sentence.rule("rule 6", "No throw, try, catch, synchronized, assert", LanguageTest::wordsNotUsed);
        Sentence.rule("rule 7", "No call may ever throw or fail to end, for any arguments in any state", LanguageTest::anyArguments);
        Sentence.rule("rule 11", "A method takes at most seven parameters. Methods stay short (some sixty lines)", LanguageTest::sizes);
        Check.end();
    }

    private static List<Class<?>> classes() {
        List<Class<?>> classes = new ArrayList<>();
        classes.add(UseOnceMachine.class);
        classes.addAll(List.of(UseOnceMachine.class.getDeclaredClasses()));
        return classes;
    }

    private static void names() {
        Set<String> open = new TreeSet<>();
        for (Method m : UseOnceMachine.class.getMethods()) {
            open.add(m.getName());
        }
        for (Class<?> owner : CLASSES) {
            for (Method m : owner.getDeclaredMethods()) {
                boolean ofTheFace = owner == UseOnceMachine.class && Modifier.isPublic(m.getModifiers());
                Check.same(m + " bears a public one's name", !ofTheFace && open.contains(m.getName()), false);
            }
        }
    }

    private static void classesInside() {
        for (Class<?> inside : UseOnceMachine.class.getDeclaredClasses()) {
            Check.same(inside + " is static", Modifier.isStatic(inside.getModifiers()), true);
            Check.same(inside + " is public", Modifier.isPublic(inside.getModifiers()), false);
            Check.same(inside + " is protected", Modifier.isProtected(inside.getModifiers()), false);
            Check.same("classes inside " + inside, inside.getDeclaredClasses().length, 0);
        }
        Check.same("classes written", found("\\bclass \\w+").size(), CLASSES.size());
        Check.same("lambdas and method references", found("->|::").toString(), "[]");
        Check.same("anonymous classes", found("new \\w+\\([^;{}]*\\) *\\{").toString(), "[]");
    }

    private static void library() {
        Check.same("imports", found("(?m)^import .*$").toString(), "[import java.util.Arrays;]");
        Set<String> own = new TreeSet<>();
        for (Class<?> c : CLASSES) {
            own.add(c.getSimpleName());
        }
        for (String used : found("\\b[A-Z]\\w*[a-z]\\w*\\.\\w+")) {
            boolean isOwn = own.contains(used.substring(0, used.indexOf('.')));
            Check.same(used + " is own or on the list", isOwn || LIBRARY.contains(used), true);
        }
        Check.same("names that end in Exact", found("\\w+Exact\\b").toString(), "[]");
        Check.same("texts", found("\"").toString(), "[]");
    }

    private static void staticFields() {
        Set<Class<?>> types = Set.of(int.class, long.class, boolean.class, char.class, int[].class);
        for (Class<?> owner : CLASSES) {
            for (Field f : owner.getDeclaredFields()) {
                if (Modifier.isStatic(f.getModifiers())) {
                    Check.same(f + " is final", Modifier.isFinal(f.getModifiers()), true);
                    Check.same(f + " is of a type that may be static", types.contains(f.getType()), true);
                }
            }
        }
        Check.same("static initialiser blocks", found("static *\\{").toString(), "[]");
    }

    private static void wordsNotUsed() {
        Check.same("words", found("\\b(throws?|try|catch|synchronized|assert|Thread|Object|equals|hashCode|toString)\\b").toString(), "[]");
    }

    /** Every call with the least and the greatest arguments, beyond the 512 calls too, on programs that go everywhere. */
    private static void anyArguments() {
        int[] far = {LEAST, LEAST + 1, -49, -9, -2, -1, 0, 1, 2, 3, 5, 6, 7, 8, 15, 18, 19, 24, 30, 31, 40, 41, 47, 48, 63, 64, MOST - 1, MOST};
        for (int start = 0; start < 200; start++) {
            UseOnceMachine x = new UseOnceMachine();
            long seed = start;
            int calls = 0;
            for (; calls < 2000; calls++) {
                seed = seed * 6364136223846793005L + 1442695040888963407L;
                int p = far[(int) (seed >>> 33) % far.length];
                int q = far[(int) (seed >>> 38) % far.length];
                int r = far[(int) (seed >>> 43) % far.length];
                aCall(x, (int) (seed >>> 48) % 24, p, q, r);
            }
            Check.same("calls that ended", calls, 2000);
        }
    }

    private static void aCall(UseOnceMachine x, int kind, int p, int q, int r) {
        switch (kind) {
            case 0: x.register(p, q); break;
            case 1: x.word(p, q); break;
            case 2: x.look(p); break;
            case 3: x.owner(p, q); break;
            case 4: x.count(p); break;
            case 5: x.gate(p, q); break;
            case 6: x.reaches(p); x.reach(); break;
            case 7: x.conserve(); break;
            case 8: x.undo(p); break;
            case 9: x.boot(); break;
            case 10: x.step(p); break;
            case 11: x.step(30); break;
            case 12: x.code(p, q, r, p, q); break;
            default: x.code(kind % 3, kind - 5 + (p & 7), p & 7, q & 7, r); break;
        }
    }

    private static void sizes() {
        Check.same("at most twelve classes", CLASSES.size() <= 12, true);
        for (Class<?> owner : CLASSES) {
            int fields = 0;
            for (Field f : owner.getDeclaredFields()) {
                fields += Modifier.isStatic(f.getModifiers()) ? 0 : 1;
            }
            Check.same("at most twenty fields of " + owner, fields <= 20, true);
            for (Method m : owner.getDeclaredMethods()) {
                Check.same("at most seven parameters of " + m, m.getParameterCount() <= 7, true);
            }
        }
        methodsAreShort();
    }

    /** A method ends at the first brace that stands as far in as its head. */
    private static void methodsAreShort() {
        Matcher method = Pattern.compile("(?ms)^( +)[\\w\\[\\] ]+\\([^;{}]*\\) \\{$.*?^\\1\\}$").matcher(CODE);
        int methods = 0;
        while (method.find()) {
            methods++;
            String head = method.group().trim().lines().findFirst().orElse("");
            Check.same("at most sixty lines of " + head, method.group().lines().count() <= 60, true);
        }
        Check.same("methods were found", methods > 50, true);
    }

    private static List<String> found(String pattern) {
        List<String> found = new ArrayList<>();
        Matcher m = Pattern.compile(pattern).matcher(CODE);
        while (m.find()) {
            found.add(m.group());
        }
        return found;
    }
}
