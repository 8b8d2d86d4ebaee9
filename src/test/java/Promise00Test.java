import java.lang.reflect.Constructor;
import java.lang.reflect.Field;
import java.lang.reflect.Method;
import java.lang.reflect.Modifier;
import java.util.Set;
import java.util.TreeSet;
import java.util.regex.Matcher;
import java.util.regex.Pattern;

/** The document's text ahead of and behind the promises: what it is, the public face, terms, what is not promised. */
public final class Promise00Test extends Machines {
    private static final Class<?> MACHINE = UseOnceMachine.class;

    /** Splits, cuts down, shares, seals and lends; then all but what is in the gate is joined again in R 1. */
    private static final int[][] ALL_OF_IT = {o(SPLIT, 1, 2, 16), o(SPLIT, 2, 3, 16), o(RESTRICT, 2, 4, 1), o(FREEZE, 2),
        o(MOVE, 5, 2), o(STORE, 4, 1, 9), o(SEAL, 3, 1, 3), o(CALL, 3, 2), o(LOAD, 4, 1, 9), o(DROP, 5), o(THAW, 2),
        o(MERGE, 2, 4), o(MERGE, 1, 2), STOP};
    private static final int[][] LENT_TO = {o(MOVE, 3, 2), o(SPLIT, 1, 4, 4), o(STORE, 4, 7, 15), o(LOAD, 4, 7, 15),
        o(MERGE, 1, 4), o(DROP, 3), o(RESTRICT, 7, 5, 2), o(MERGE, 7, 5), BACK};
    private static final int ORDERS = ALL_OF_IT.length + LENT_TO.length;

    public static void main(String[] args) {
        Sentence.holds("0.1", "A machine whose registers and words hold numbers or rights to other words:", Promise00Test::numbersOrRights);
        Sentence.holds("0.2", "rights are split, joined, cut down, shared by count, sealed into gates and lent to other modules, "
            + "and none is ever lost or doubled;", Promise00Test::noneIsLost);
        Sentence.holds("0.3", "what it did can be taken back.", Promise00Test::takenBack);
        Sentence.holds("0.4", "what later calls answer is free.", Promise00Test::laterCalls);
        Sentence.holds("0.5", "public final class UseOnceMachine {", Promise00Test::itsClass);
        Sentence.holds("0.6", "public UseOnceMachine();", Promise00Test::itsConstructor);
        Sentence.holds("0.7", "public int code(int module, int operation, int a, int b, int c); public boolean boot();", Promise00Test::itsMethods);
        Sentence.holds("0.8", "A cell has a COUNT.", Promise00Test::aCountEach);
        Sentence.holds("0.9", "Orders, with their numbers in this order", Promise00Test::nineteenOrders);
        Sentence.holds("0.10", "Nothing is promised beyond the answers and state changes described above", Promise00Test::looksChangeNothing);
        Check.end();
    }

    /** A word can hold a right to words, itself among them, and so can a register; both hold every number. */
    private static void numbersOrRights() {
        for (int n : new int[] {0, 1, -1, LEAST, MOST}) {
            Used x = ran(CUT, o(NUMBER, 3, n), o(STORE, 3, 2, 31), o(STORE, 2, 1, 0), o(STORE, 1, 1, 15));
            registerIs("a register with " + n, x, 3, 0, n, 0, 0, 0);
            wordIs("a word with " + n, x, 47, 0, n, 0, 0, 0);
            wordIs("a word with a right to other words", x, 0, 1, 16, 48, 15, 0);
            wordIs("a word with a right to itself", x, 15, 1, 0, 16, 15, 0);
        }
    }

    private static Used allOfIt() {
        return booted(ALL_OF_IT, LENT_TO, NO_CODE);
    }

    private static void noneIsLost() {
        for (int n = 1; n <= ORDERS; n++) {
            Used x = allOfIt();
            Check.same("step(" + n + ")", x.step(n), n < ORDERS ? 0 : -1);
            Check.same("conserve after " + n, x.conserve(), 0);
            Check.same("rights that are owned after " + n, rightsOwned(x), 4 * 48);
        }
        Used x = allOfIt();
        x.step(ORDERS);
        registerIs("joined again", x, 1, 1, 0, 32, 15, 0);
        registerIs("the seal", x, 3, 3, 0, 0, 0, 0);
        Check.same("in the gate", x.owner(32, 8), 300);
        Check.same("shared no more", x.count(0), 0);
    }

    private static int rightsOwned(Used x) {
        int owned = 0;
        for (int address = 0; address < 48; address++) {
            for (int right = 1; right <= 8; right *= 2) {
                owned += x.owner(address, right) >= 0 ? 1 : 0;
            }
        }
        return owned;
    }

    private static void takenBack() {
        String atBoot = all(Promise00Test::allOfIt);
        Check.same("all at once", all(after(Promise00Test::allOfIt, x -> {
            Check.same("step", x.step(30), -1);
            Check.same("undo", x.undo(40), ORDERS);
        })), atBoot);
        Check.same("there and back at each order", all(after(Promise00Test::allOfIt, x -> {
            for (int n = 1; n <= ORDERS; n++) {
                x.step(n);
                Check.same("undo(" + n + ")", x.undo(n), n);
            }
        })), atBoot);
    }

    /** Their answers are free, but they end, and another object is as it was. */
    private static void laterCalls() {
        UseOnceMachine late = new UseOnceMachine();
        Used other = ran(CUT, READ_ONLY, FROZEN);
        for (int i = 0; i < 5000; i++) {
            late.code(i % 3, i % 19, 1 + i % 2, 2, i % 48);
            late.step(1 + i % 30);
            late.undo(1 + i % 7);
            if (i % 50 == 0) {
                late.boot();
            }
            late.conserve();
        }
        registerIs("another object", other, 1, 1, 0, 16, 15, 0);
        registerIs("another object", other, 2, 2, 16, 48, 1, 0);
        looksAre("another object", other, 0, 0, 3, 3, 0, 3, 0, 0);
    }

    private static void itsClass() {
        Check.same("public", Modifier.isPublic(MACHINE.getModifiers()), true);
        Check.same("final", Modifier.isFinal(MACHINE.getModifiers()), true);
        Check.same("no package", MACHINE.getPackageName(), "");
        Check.same("no class above it", MACHINE.getSuperclass() == Object.class, true);
        Check.same("interfaces", MACHINE.getInterfaces().length, 0);
        for (Field f : MACHINE.getDeclaredFields()) {
            Check.same(f + " is private", Modifier.isPrivate(f.getModifiers()), true);
        }
    }

    private static void itsConstructor() {
        Constructor<?>[] makers = MACHINE.getDeclaredConstructors();
        Check.same("constructors", makers.length, 1);
        Check.same("public", Modifier.isPublic(makers[0].getModifiers()), true);
        Check.same("its parameters", makers[0].getParameterCount(), 0);
        Check.same("what it declares to throw", makers[0].getExceptionTypes().length, 0);
    }

    private static void itsMethods() {
        Set<String> seen = new TreeSet<>();
        for (Method m : MACHINE.getDeclaredMethods()) {
            if (!Modifier.isPrivate(m.getModifiers())) {
                seen.add(head(m));
                Check.same(m + " is public", Modifier.isPublic(m.getModifiers()), true);
                Check.same(m + " is static", Modifier.isStatic(m.getModifiers()), false);
                Check.same(m + " declares to throw", m.getExceptionTypes().length, 0);
            }
        }
        Set<String> due = documentsMethods();
        Check.same("methods that the document has", due.size(), 13);
        Check.same("the methods", seen.toString(), due.toString());
    }

    /** The methods' heads in the document's first block of Java, without their parameters' names. */
    private static Set<String> documentsMethods() {
        Set<String> heads = new TreeSet<>();
        Matcher line = Pattern.compile("public (int|boolean) (\\w+)\\(([^)]*)\\);").matcher(Sentence.text("../shared/DOC.md"));
        while (line.find()) {
            heads.add(line.group(1) + " " + line.group(2) + "(" + line.group(3).replaceAll("int \\w+", "int") + ")");
        }
        return heads;
    }

    private static String head(Method m) {
        StringBuilder text = new StringBuilder(m.getReturnType() + " " + m.getName() + "(");
        for (Class<?> type : m.getParameterTypes()) {
            text.append(text.charAt(text.length() - 1) == '(' ? "" : ", ").append(type);
        }
        return text.append(")").toString();
    }

    private static void aCountEach() {
        Used x = ran(CUT, READ_ONLY, FROZEN, o(MOVE, 4, 2), o(MOVE, 5, 2), o(RESTRICT, 1, 6, 1), o(FREEZE, 1));
        Check.same("one cell's count", x.count(0), 3);
        Check.same("another's", x.count(1), 1);
        Check.same("one that is not in use", x.count(2), 0);
        x = ran(sixCells());
        for (int cell = 0; cell < 6; cell++) {
            Check.same("all in use: count(" + cell + ")", x.count(cell), 1);
        }
    }

    /** 0 NUMBER to 18 HALT: the first and the last operation are orders, those beside them are none. */
    private static void nineteenOrders() {
        int[] due = {0, 0, 0, 0, 1, 1, 1, 1, 1, 1, 1, 1, 0, 0, 0, 1, 1, 8, -1};
        for (int operation = 0; operation < due.length; operation++) {
            Check.same("operation " + operation + " with zeros", booted(o(operation, 0, 0, 0)).step(1), due[operation]);
        }
        for (int operation : outside(0, 18)) {
            Check.same("operation " + operation, booted(o(operation, 0, 0, 0)).step(1), 5);
        }
    }

    /** Calls that only look answer the same again, and leave what the machine does next as it is. */
    private static void looksChangeNothing() {
        changesNothing("looking", after(Promise00Test::allOfIt, x -> x.step(12)), x -> {
            for (int i = -1; i <= 8; i++) {
                x.register(i, 1);
                x.word(i, 1);
                x.look(i);
                x.owner(i, 1);
                x.count(i);
                x.gate(i, 0);
                x.reaches(i);
            }
            Check.same("reach", x.reach(), x.reach());
            Check.same("conserve", x.conserve(), x.conserve());
        });
    }
}
