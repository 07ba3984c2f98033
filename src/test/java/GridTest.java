import java.lang.reflect.InvocationTargetException;
import java.lang.reflect.Method;
import java.util.Arrays;
import java.util.LinkedHashMap;
import java.util.Map;
import java.util.NoSuchElementException;
import java.util.Set;
import java.util.function.IntBinaryOperator;
import java.util.function.IntUnaryOperator;

/**
 * Every call but feed with every mixture of edge arguments, in states that are empty, full, false or at their most, on the
 * program and on the plain model: the answers and what can be seen after them must be the same, and nothing else is thrown.
 */
public final class GridTest {
    private static final int LOW = Integer.MIN_VALUE;
    private static final int HIGH = Integer.MAX_VALUE;
    private static final int THROWN = -99;
    private static final int[] BOOK = {LOW, -1, 0, 1, 2, HIGH};
    private static final int[] QUARTER = {LOW, -1, 0, 1, 2, 3, 4, HIGH};
    private static final int[] NUMBER = {LOW, -1, 0, 59, 60, 9999, 10000, HIGH};
    private static final int[] PAGE = {LOW, -1, 0, 1, 2, 3, 4, 15, 16, 19, 20, 31, 32, HIGH};
    private static final int[] PLACE = {LOW, -1, 0, 1, 2, 5, 6, 38, 39, 40, HIGH};
    private static final int[] TWO = {LOW, -1, 0, 1, 2, HIGH};
    private static final int[] THREE = {LOW, -1, 0, 1, 2, 3, HIGH};
    private static final int[] FOUR = {LOW, -1, 0, 1, 2, 3, 4, HIGH};
    private static final int[] SIX = {LOW, -1, 0, 1, 2, 3, 4, 5, 6, HIGH};
    private static final int[] VALUE = {LOW, -1, 0, 1, 255, 256, 65535, 65536, HIGH};
    private static final int[] SEAL = {LOW, -1, 0, 1, 33, 996, 997, HIGH};
    private static final int[] LEAFLETS = {LOW, -1, 0, 1, 2, 5, 12, HIGH};
    private static final int[] MANY = {LOW, -1, 0, 1, 2, 5, 6, 11, 12, HIGH};
    private static final int[] HUNDRED = {LOW, -1, 0, 1, 50, 99, 100, 101, HIGH};
    private static final int[] COUNT = {LOW, -1, 0, 1, 2, 3, 4, 5, 6, 7, 8, 9, HIGH};
    private static final int[] FLAG = {0, 1};

    private static final Map<String, int[][]> CALLS = new LinkedHashMap<>();
    static {
        CALLS.put("book", new int[][] {BOOK, {LOW, -1, 0, 1, 2, 15, 16, 17, HIGH}});
        CALLS.put("page", new int[][] {BOOK, PAGE, VALUE});
        CALLS.put("draw", new int[][] {BOOK});
        CALLS.put("leaflet", new int[][] {BOOK, NUMBER, FOUR});
        CALLS.put("told", new int[][] {BOOK, PAGE});
        CALLS.put("comes", new int[][] {QUARTER, BOOK, NUMBER, FOUR});
        CALLS.put("slip", new int[][] {QUARTER, BOOK, NUMBER, VALUE});
        CALLS.put("forged", new int[][] {QUARTER, BOOK, {-1, 0, 9999, 10000}, VALUE, SEAL});
        CALLS.put("nameless", new int[][] {QUARTER, NUMBER, VALUE});
        CALLS.put("paper", new int[][] {QUARTER, PLACE, SIX});
        CALLS.put("away", new int[][] {QUARTER, PLACE});
        CALLS.put("peels", new int[][] {QUARTER, BOOK, TWO, FOUR});
        CALLS.put("solves", new int[][] {QUARTER, BOOK, TWO, FOUR});
        CALLS.put("read", new int[][] {QUARTER, BOOK, PAGE, TWO});
        CALLS.put("soon", new int[][] {QUARTER, BOOK, PAGE, TWO});
        CALLS.put("slipped", new int[][] {QUARTER, BOOK, TWO, THREE});
        CALLS.put("right", new int[][] {QUARTER, BOOK, TWO, PAGE});
        CALLS.put("doubles", new int[][] {QUARTER, BOOK, TWO});
        CALLS.put("guard", new int[][] {QUARTER, BOOK, TWO, PAGE});
        CALLS.put("tocome", new int[][] {QUARTER, BOOK, TWO});
        CALLS.put("chances", new int[][] {BOOK, {LOW, -1, 0, 1, 2, 10, 11, 12, HIGH}, MANY, TWO});
        CALLS.put("enough", new int[][] {BOOK, LEAFLETS, TWO, FLAG});
        CALLS.put("average", new int[][] {BOOK, LEAFLETS, TWO, TWO});
        CALLS.put("degree", new int[][] {BOOK, LEAFLETS, MANY, TWO});
        CALLS.put("apart", new int[][] {QUARTER, PLACE});
        CALLS.put("quarter", new int[][] {QUARTER, HUNDRED, {LOW, -1, 0, 1, 998, 999, 1000, HIGH}});
        CALLS.put("scatter", new int[][] {BOOK, {LOW, -1, 0, 99, 9900, 9999, 10000, HIGH}, {LOW, -1, 0, 98, 99, 100, 9999, 10000, HIGH}});
        CALLS.put("needs", new int[][] {QUARTER, BOOK});
        CALLS.put("town", new int[][] {BOOK, HUNDRED});
        CALLS.put("swap", new int[][] {QUARTER, QUARTER, {LOW, -1, 0, 1, 2, 39, 40, 41, HIGH}});
        CALLS.put("mark", new int[][] {FOUR, FLAG});
        CALLS.put("count", new int[][] {COUNT});
    }

    private static final Set<String> CHANGING = Set.of("book", "page", "draw", "comes", "slip", "forged", "nameless", "away",
        "quarter", "scatter", "swap", "mark");
    private static final int STATES = 6;
    private static final Map<String, Method> OF_PROGRAM = methods(ThousandLeaflets.class);
    private static final Map<String, Method> OF_MODEL = methods(PlainModel.class);
    private static int wrong = 0;
    private static int calls = 0;

    private ThousandLeaflets program;
    private PlainModel model;
    private long seen;

    private static Map<String, Method> methods(Class<?> of) {
        Map<String, Method> found = new LinkedHashMap<>();
        for (Method m : of.getDeclaredMethods()) {
            int[][] edges = CALLS.get(m.getName());
            if (edges != null && edges.length == m.getParameterCount()) {
                found.put(m.getName(), m);
            }
        }
        return found;
    }

    public static void main(String[] args) {
        for (int state = 0; state < STATES; state++) {
            for (String name : CALLS.keySet()) {
                new GridTest().all(state, name);
            }
        }
        System.out.println(wrong == 0 ? calls + " calls answer as the model does" : wrong + " of " + calls + " calls do not");
        if (wrong != 0) {
            System.exit(1);
        }
    }

    private void all(int state, String name) {
        int[][] edges = CALLS.get(name);
        int[] a = new int[edges.length];
        int mixtures = 1;
        for (int[] e : edges) {
            mixtures *= e.length;
        }
        build(state);
        for (int i = 0; i < mixtures && wrong < 20; i++) {
            int rest = i;
            for (int j = 0; j < a.length; j++) {
                a[j] = edges[j][rest % edges[j].length];
                rest /= edges[j].length;
            }
            if (!isTooDear(state, name, a)) {
                compare(state, name, a);
            }
        }
    }

    // The model counts these out one by one, in a book of twenty pages all too long.
    private static boolean isTooDear(int state, String name, int[] a) {
        return state == 3 && (name.equals("degree") && a[2] > 2 || name.equals("tocome") && a[0] != 1);
    }

    private void compare(int state, String name, int[] a) {
        calls++;
        long due = answer(model, OF_MODEL.get(name), a);
        long got = answer(program, OF_PROGRAM.get(name), a);
        if (due != got) {
            wrong++;
            System.out.println("state " + state + ": " + name + Arrays.toString(a) + " answered " + got + ", due is " + due);
        }
        long now = view(program);
        if (now != seen) {
            // It has changed: by as much as the model has?
            if (now != view(model)) {
                wrong++;
                System.out.println("state " + state + ": " + name + Arrays.toString(a) + " leaves something else than is due");
            }
            build(state);
        } else if (due >= 0 && CHANGING.contains(name) && view(model) != seen) {
            wrong++;
            System.out.println("state " + state + ": " + name + Arrays.toString(a) + " changes nothing, as would be due");
            build(state);
        }
    }

    private static long answer(Object of, Method m, int[] a) {
        Object[] arguments = new Object[a.length];
        for (int i = 0; i < a.length; i++) {
            arguments[i] = m.getParameterTypes()[i] == boolean.class ? (Object) (a[i] == 1) : (Object) a[i];
        }
        try {
            Object answer = m.invoke(of, arguments);
            return answer instanceof Boolean ? (Boolean) answer ? 1 : 0 : ((Number) answer).longValue();
        } catch (InvocationTargetException e) {
            if (m.getName().equals("paper") && e.getCause() instanceof NoSuchElementException) {
                return THROWN;
            }
            throw new IllegalStateException(m.getName() + Arrays.toString(a), e.getCause());
        } catch (IllegalAccessException e) {
            throw new IllegalStateException(e);
        }
    }

    // ---- the states

    private void call(String name, int... a) {
        answer(model, OF_MODEL.get(name), a);
        answer(program, OF_PROGRAM.get(name), a);
    }

    private void feed(String text) {
        for (char sign : text.toCharArray()) {
            model.feed(sign, 0, 0);
            program.feed(sign, 0, 0);
        }
    }

    private void tell(int book, int n, String text) {
        call("book", book, n);
        for (int p = 0; p < n; p++) {
            call("page", book, p, 4099 * (p + 1) + 257 * p * p & 65535);
        }
        feed(text);
        call("draw", book);
    }

    private void build(int state) {
        program = new ThousandLeaflets();
        model = new PlainModel();
        switch (state) {
            case 0:
                break;
            case 1:
                tell(0, 3, "odds 1 3; odds 2 3; odds 3 1; sum 0 2; first 2 3;");
                feed("odds 2 1; seal 5;");
                call("quarter", 3, 60, 17);
                break;
            case 2:
                bothBooks();
                break;
            case 3:
                fullBook();
                break;
            case 4:
                call("nameless", 2, 7, 9);
                tell(1, 1, "");
                call("nameless", 2, 7, 9);
                call("nameless", 0, 8, 9);
                call("mark", 1, 0);
                feed("odds 1");
                break;
            default:
                falseOnes();
        }
        seen = view(program);
        if (seen != view(model)) {
            throw new IllegalStateException("the model differs from the start, state " + state);
        }
    }

    /** Quarter 1 is full, quarter 2 has six nameless papers. */
    private void bothBooks() {
        tell(0, 3, "odds 1 2; odds 2 3; sum 0 1; seal 33;");
        tell(1, 2, "odds 1 1; odds 2 1; first 1 2;");
        call("scatter", 0, 0, 2);
        call("mark", 0, 0);
        for (int i = 0; i < 37; i++) {
            call("comes", 1, i % 2, i, 1 + i % 3);
        }
        for (int i = 0; i < 7; i++) {
            call("nameless", 2, i, i % 3 * 771);
        }
        call("mark", 3, 0);
        call("away", 0, 1);
        call("comes", 0, 1, 4, 3);
        call("nameless", 0, 5, 4099);
        call("slip", 0, 0, 9, 4);
        call("quarter", 2, 35, 999);
        call("quarter", 0, 100, 0);
    }

    private void fullBook() {
        tell(0, 16, "sum 0 1 2; sum 3 15; sum 4 5 6 7 8 9 10 11; sum 12 13; odds 1 5; odds 2 4; odds 3 2; odds 20 1;");
        call("scatter", 0, 0, 39);
        call("away", 0, 3);
        call("away", 2, 0);
        call("slip", 2, 0, 77, 256);
    }

    /** Papers that do not agree, in one byte or in both, and some that may be put right. */
    private void falseOnes() {
        tell(0, 2, "odds 1 1; odds 2 1; sum 0 1;");
        tell(1, 1, "seal 1;");
        for (int i = 0; i < 12; i++) {
            call("comes", i % 3, 0, i, 3);
        }
        call("slip", 0, 0, 50, 1);
        call("slip", 1, 0, 50, 256);
        call("slip", 1, 0, 51, 1);
        call("slip", 1, 0, 52, 2);
        call("slip", 2, 0, 53, 65535);
        call("slip", 3, 0, 53, 65535);
        call("forged", 3, 1, 5, 4, 6);
        call("nameless", 3, 3, 4);
        call("mark", 2, 0);
    }

    // ---- what can be seen

    private static long mix(long hash, long v) {
        return (hash ^ v) * 0x100000001B3L + 0x9E3779B97F4A7C15L;
    }

    private interface Three {
        int of(int a, int b, int c);
    }

    private static long view(ThousandLeaflets x) {
        return view(x::count, x::told, x::needs, x::leaflet, x::paper);
    }

    private static long view(PlainModel x) {
        return view(x::count, x::told, x::needs, x::leaflet, x::paper);
    }

    private static long view(IntUnaryOperator count, IntBinaryOperator told, IntBinaryOperator needs, Three leaflet, Three paper) {
        long hash = 0;
        for (int what = 0; what <= 8; what++) {
            hash = mix(hash, count.applyAsInt(what));
        }
        for (int b = 0; b < 2; b++) {
            for (int p = 0; p < count.applyAsInt(4 + b); p++) {
                hash = mix(hash, told.applyAsInt(b, p));
            }
            hash = mix(mix(hash, leaflet.of(b, 0, 0)), leaflet.of(b, 9999, 2));
        }
        for (int q = 0; q < 4; q++) {
            for (int i = 0; i < count.applyAsInt(q); i++) {
                for (int what = 0; what <= 4; what++) {
                    hash = mix(hash, paper.of(q, i, what));
                }
            }
            hash = mix(mix(hash, needs.applyAsInt(q, 0)), needs.applyAsInt(q, 1));
        }
        return hash;
    }
}
