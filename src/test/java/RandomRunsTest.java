import java.lang.reflect.InvocationTargetException;
import java.lang.reflect.Method;
import java.util.NoSuchElementException;
import java.util.Random;

/** Runs of calls from fixed seeds, on the program and on the plain model: all answers must be the same. */
public final class RandomRunsTest {
    private static final int RUNS = 1500;
    private static final int THROWN = -99;
    private static final String[] NAMES = {"book", "page", "feed", "draw", "leaflet", "told", "comes", "slip", "forged",
        "nameless", "paper", "away", "peels", "solves", "read", "soon", "slipped", "right", "doubles", "guard",
        "tocome", "chances", "enough", "average", "degree", "apart", "quarter", "scatter", "needs", "town", "swap",
        "mark", "count"};
    // How often each is called; the dear ones of the model are rare.
    private static final int[] SHARES = {1, 6, 0, 6, 10, 6, 40, 10, 10,
        10, 10, 6, 10, 10, 10, 8, 8, 8, 6, 6,
        2, 6, 2, 3, 3, 12, 3, 3, 3, 3, 5,
        4, 10};

    private final Random random;
    // In a calm run no false paper comes, so that much agrees; in a tidy one the texts have no faults.
    private final boolean calm;
    private final boolean tidy;
    private final ThousandLeaflets program = new ThousandLeaflets();
    private final PlainModel model = new PlainModel();
    private int wrong = 0;

    private RandomRunsTest(long seed) {
        random = new Random(seed * 0x9E3779B97F4A7C15L);
        calm = random.nextBoolean();
        tidy = random.nextInt(3) > 0;
    }

    public static void main(String[] args) {
        int wrong = 0;
        int from = args.length > 0 ? Integer.parseInt(args[0]) : 0;
        int runs = args.length > 1 ? Integer.parseInt(args[1]) : RUNS;
        for (int run = from; run < from + runs && wrong < 20; run++) {
            wrong += new RandomRunsTest(run).play(run);
        }
        System.out.println(wrong == 0 ? "all answers are the same" : wrong + " answers differ");
        if (wrong != 0) {
            System.exit(1);
        }
    }

    private int play(int run) {
        int calls = 0;
        calls += feedText(drawText(bookNow(0)), run);
        calls += call("draw", new int[] {0}, run);
        if (random.nextInt(4) > 0) {
            calls += feedText(drawText(bookNow(1)), run);
            calls += call("draw", new int[] {1}, run);
        }
        fillPages(run);
        int most = 40 + random.nextInt(160);
        for (int i = 0; i < most && wrong == 0 && calls < 500; i++) {
            String name = pick();
            if (calm && (name.equals("slip") || name.equals("forged"))) {
                name = "comes";
            }
            if (name.equals("draw") && random.nextInt(4) > 0) {
                calls += feedText(drawText(model.n[0] + 1), run);
            }
            calls += call(name, arguments(name), run);
            if (name.equals("book")) {
                fillPages(run);
            }
        }
        return wrong;
    }

    private int bookNow(int book) {
        int pages = random.nextInt(5) == 0 ? 1 + random.nextInt(16) : 1 + random.nextInt(6);
        call("book", new int[] {book, pages}, -1);
        return pages;
    }

    private void fillPages(int run) {
        int small = random.nextInt(3);
        for (int b = 0; b < 2; b++) {
            for (int p = 0; p < model.n[b]; p++) {
                call("page", new int[] {b, p, small == 0 ? random.nextInt(4) * 257 : random.nextInt(65536)}, run);
            }
        }
    }

    private String pick() {
        int all = 0;
        for (int s : SHARES) {
            all += s;
        }
        int r = random.nextInt(all);
        int i = 0;
        while (r >= SHARES[i]) {
            r -= SHARES[i];
            i++;
        }
        return NAMES[i];
    }

    private String tidyText(int pages) {
        StringBuilder text = new StringBuilder();
        for (int i = random.nextInt(3); i > 0 && pages > 1; i--) {
            int p = random.nextInt(pages);
            text.append("sum ").append(p).append(' ').append((p + 1 + random.nextInt(pages - 1)) % pages).append("; ");
        }
        for (int d = 1; d <= 5; d++) {
            if (random.nextInt(3) > 0) {
                text.append("odds ").append(d).append(' ').append(random.nextInt(9)).append("; ");
            }
        }
        if (random.nextInt(3) == 0) {
            text.append("first ").append(1 + random.nextInt(16)).append(' ').append(2 + random.nextInt(8)).append(';');
        }
        if (random.nextInt(2) == 0) {
            text.append("seal ").append(1 + random.nextInt(996)).append(';');
        }
        return text.toString();
    }

    private String drawText(int pages) {
        if (tidy) {
            return tidyText(pages);
        }
        StringBuilder text = new StringBuilder();
        int many = random.nextInt(7);
        for (int i = 0; i < many; i++) {
            switch (random.nextInt(6)) {
                case 0:
                    text.append("first ").append(upTo(16)).append(blank()).append(upTo(9)).append(blank()).append(';');
                    break;
                case 1:
                    text.append("seal").append(blank()).append(1 + random.nextInt(997)).append(';');
                    break;
                case 2:
                    text.append("sum");
                    for (int p = 0; p < pages; p++) {
                        if (random.nextInt(3) > 0) {
                            text.append(' ').append(random.nextInt(20) == 0 ? random.nextInt(17) : p);
                        }
                    }
                    text.append(blank()).append(';');
                    break;
                default:
                    text.append("odds ").append(upTo(random.nextInt(3) > 0 ? 4 : 20)).append(' ')
                        .append(random.nextInt(random.nextInt(9) == 0 ? 1010 : 12)).append(";\n");
            }
        }
        while (random.nextInt(4) == 0 && text.length() > 0) {
            int at = random.nextInt(text.length());
            switch (random.nextInt(3)) {
                case 0:
                    text.deleteCharAt(at);
                    break;
                case 1:
                    text.insert(at, (char) (32 + random.nextInt(95)));
                    break;
                default:
                    text.setCharAt(at, (char) (32 + random.nextInt(95)));
            }
        }
        return text.toString();
    }

    private int upTo(int most) {
        return random.nextInt(30) == 0 ? random.nextInt(most + 3) : 1 + random.nextInt(most);
    }

    private String blank() {
        return random.nextInt(3) == 0 ? "\n " : " ";
    }

    private int feedText(String text, int run) {
        int calls = 0;
        for (int at = 0; at < text.length(); at += 24) {
            long[] words = new long[3];
            for (int i = 0; i < 24; i++) {
                int sign = at + i < text.length() ? text.charAt(at + i) : random.nextInt(2) * 127;
                words[i / 8] = words[i / 8] << 8 | sign;
            }
            same("feed", words, model.feed(words[0], words[1], words[2]), program.feed(words[0], words[1], words[2]), run);
            calls++;
        }
        return calls;
    }

    private int odd(int least, int most) {
        int r = random.nextInt(60);
        return r == 0 ? least - 1 : r == 1 ? most + 1 : r == 2 ? Integer.MAX_VALUE : r == 3 ? Integer.MIN_VALUE
            : least + random.nextInt(most - least + 1);
    }

    private int quarter() {
        return random.nextInt(3) > 0 ? 0 : odd(0, 3);
    }

    private int book() {
        return random.nextInt(3) > 0 ? 0 : odd(0, 1);
    }

    private int number() {
        return random.nextInt(4) > 0 ? random.nextInt(30) : odd(0, 9999);
    }

    private int pageOf(int book) {
        int all = book == 0 || book == 1 ? model.all(book) : 3;
        return odd(0, Math.max(all - 1, 0));
    }

    private int place(int quarter) {
        int size = quarter >= 0 && quarter < 4 ? model.heaps.get(quarter).size() : 2;
        return odd(0, Math.max(size - 1, 0));
    }

    private int someSum(int book, int x) {
        int sum = calm || random.nextInt(3) > 0 ? model.leaflet(book, x, 1) : -1;
        return sum >= 0 ? sum : random.nextInt(3) == 0 ? random.nextInt(4) : odd(0, 65535);
    }

    private int[] arguments(String name) {
        int q = quarter();
        int b = book();
        int x = number();
        int m = odd(1, random.nextInt(3) == 0 ? 11 : 7);
        switch (name) {
            case "book":
                return new int[] {b, odd(1, random.nextInt(3) == 0 ? 16 : 5)};
            case "page":
                return new int[] {b, odd(0, 15), odd(0, 65535)};
            case "draw":
            case "count":
                return new int[] {name.equals("draw") ? odd(0, 1) : odd(0, 8)};
            case "leaflet":
                return new int[] {b, x, odd(0, 3)};
            case "told":
                return new int[] {b, pageOf(b)};
            case "comes":
                return new int[] {q, b, x, random.nextInt(3) > 0 ? 3 : odd(1, 3)};
            case "slip":
                return new int[] {q, b, x, random.nextInt(2) == 0 ? 1 << random.nextInt(16) : odd(1, 65535)};
            case "forged":
                int sum = someSum(b, x);
                return new int[] {q, b, x, sum, random.nextInt(3) > 0 && model.isTold(b) ? model.sealOf(b, x, sum) : odd(0, 996)};
            case "nameless":
                return new int[] {q, x, someSum(random.nextInt(2), x)};
            case "paper":
                return new int[] {q, place(q), odd(0, 5)};
            case "away":
            case "apart":
                return new int[] {q, place(q)};
            case "peels":
            case "solves":
                return new int[] {q, b, odd(0, 1), odd(0, 3)};
            case "read":
            case "soon":
                return new int[] {q, b, pageOf(b), odd(0, 1)};
            case "slipped":
                return new int[] {q, b, odd(0, 1), odd(0, 2)};
            case "right":
            case "guard":
                return new int[] {q, b, odd(0, 1), pageOf(b)};
            case "doubles":
            case "tocome":
                return new int[] {q, b, odd(0, 1)};
            case "chances":
            case "degree":
                int k = random.nextBoolean() ? m - random.nextInt(3) : odd(0, Math.max(1, Math.min(m, 11)));
                return new int[] {b, m, k, odd(0, 1)};
            case "enough":
            case "average":
                return new int[] {b, m, odd(0, 1), odd(0, 1)};
            case "quarter":
                return new int[] {odd(0, 3), odd(0, 100), odd(0, 999)};
            case "scatter":
                int from = number();
                return new int[] {b, from, from + odd(0, random.nextInt(3) == 0 ? 99 : 5)};
            case "needs":
                return new int[] {q, b};
            case "town":
                return new int[] {b, odd(0, 100)};
            case "swap":
                return new int[] {odd(0, 3), odd(0, 3), odd(0, random.nextInt(2) == 0 ? 40 : 3)};
            default:
                return new int[] {odd(0, 3), odd(0, 1)};
        }
    }

    private int call(String name, int[] a, int run) {
        long[] shown = new long[a.length];
        for (int i = 0; i < a.length; i++) {
            shown[i] = a[i];
        }
        same(name, shown, answer(model, name, a), answer(program, name, a), run);
        return 1;
    }

    /** What a call answers; a boolean counts 1 or 0, and what is thrown is a number of its own. */
    private static long answer(Object of, String name, int[] a) {
        try {
            for (Method m : of.getClass().getDeclaredMethods()) {
                if (m.getName().equals(name) && m.getParameterCount() == a.length) {
                    Object[] arguments = new Object[a.length];
                    for (int i = 0; i < a.length; i++) {
                        arguments[i] = m.getParameterTypes()[i] == boolean.class ? (Object) (a[i] == 1) : (Object) a[i];
                    }
                    Object answer = m.invoke(of, arguments);
                    return answer instanceof Boolean ? (Boolean) answer ? 1 : 0 : ((Number) answer).longValue();
                }
            }
        } catch (InvocationTargetException e) {
            if (e.getCause() instanceof NoSuchElementException) {
                return THROWN;
            }
            throw new IllegalStateException(name, e.getCause());
        } catch (IllegalAccessException e) {
            throw new IllegalStateException(e);
        }
        throw new IllegalStateException("there is no call " + name);
    }

    private void same(String name, long[] a, long due, long got, int run) {
        if (due != got) {
            wrong++;
            System.out.println("run " + run + ": " + name + java.util.Arrays.toString(a) + " answered " + got + ", due is " + due);
        }
    }
}
