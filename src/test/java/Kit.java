import java.util.NoSuchElementException;
import java.util.function.LongSupplier;

/** What the tests by hand share: telling books and draws, finding leaflets, and saying which sentence is broken. */
final class Kit {
    /** Far beyond every bound of the document, to both sides. */
    static final int[] FAR = {Integer.MIN_VALUE, Integer.MIN_VALUE + 1, Integer.MAX_VALUE - 1, Integer.MAX_VALUE};

    private static String sentence = "";
    private static int wrong = 0;
    private static int checks = 0;

    private Kit() {
    }

    /** The sentence of the document that the checks from here on hold to. */
    static void says(String words) {
        sentence = words;
    }

    static void due(String what, long want, long got) {
        checks++;
        if (got != want) {
            wrong++;
            System.out.println("'" + sentence + "': " + what + " answered " + got + ", due is " + want);
        }
    }

    static void due(String what, boolean want, boolean got) {
        due(what, want ? 1 : 0, got ? 1 : 0);
    }

    static void end() {
        System.out.println(wrong == 0 ? checks + " checks hold" : wrong + " of " + checks + " checks are wrong");
        if (wrong != 0) {
            System.exit(1);
        }
    }

    static int feed(ThousandLeaflets x, String text) {
        int there = x.count(6);
        for (int at = 0; at < text.length(); at += 24) {
            long[] words = new long[3];
            for (int i = 0; i < 24; i++) {
                words[i / 8] = words[i / 8] << 8 | (at + i < text.length() ? text.charAt(at + i) : 0);
            }
            there = x.feed(words[0], words[1], words[2]);
        }
        return there;
    }

    static int draw(ThousandLeaflets x, int book, String text) {
        feed(x, text);
        return x.draw(book);
    }

    /** A book 0 of n pages by a draw, page p (below 8) being 257 times 2 to the p, the others 0. */
    static ThousandLeaflets told(int n, String text) {
        ThousandLeaflets x = new ThousandLeaflets();
        tell(x, 0, n, text);
        return x;
    }

    static void tell(ThousandLeaflets x, int book, int n, String text) {
        x.book(book, n);
        for (int p = 0; p < n && p < 8; p++) {
            x.page(book, p, 257 << p);
        }
        if (draw(x, book, text) != 0) {
            throw new IllegalStateException("the draw has a fault: " + text);
        }
    }

    /** The nth number (from 0) whose leaflet has just these pages. */
    static int number(ThousandLeaflets x, int book, int pages, int nth) {
        int left = nth;
        for (int i = 0; i <= 9999; i++) {
            if (x.leaflet(book, i, 0) == pages && left-- == 0) {
                return i;
            }
        }
        throw new IllegalStateException("no leaflet has the pages " + pages);
    }

    static int number(ThousandLeaflets x, int pages) {
        return number(x, 0, pages, 0);
    }

    /** 1 if paper(..) throws, else 0. */
    static int thrown(ThousandLeaflets x, int quarter, int place, int what) {
        try {
            x.paper(quarter, place, what);
            return 0;
        } catch (NoSuchElementException e) {
            return 1;
        }
    }

    /** Fills the heap up to so many papers with the leaflet 0 of the book. */
    static void fill(ThousandLeaflets x, int quarter, int book, int size) {
        for (int i = x.count(quarter); i < size; i++) {
            x.comes(quarter, book, 0, 3);
        }
    }

    /** All that can be seen of an object without a change, but for what is on the marks. */
    static String state(ThousandLeaflets x) {
        StringBuilder seen = new StringBuilder();
        for (int what = 0; what <= 8; what++) {
            seen.append(x.count(what)).append(' ');
        }
        for (int b = 0; b < 2; b++) {
            for (int p = 0; p < x.count(4 + b); p++) {
                seen.append(x.told(b, p)).append(' ');
            }
            for (int number : new int[] {0, 1, 2, 59, 60, 9999}) {
                seen.append(x.leaflet(b, number, 0)).append(' ').append(x.leaflet(b, number, 2)).append(' ');
            }
        }
        for (int q = 0; q < 4; q++) {
            for (int i = 0; i < x.count(q); i++) {
                for (int what = 0; what <= 4; what++) {
                    seen.append(x.paper(q, i, what)).append(' ');
                }
            }
            seen.append(x.needs(q, 0)).append(' ').append(x.needs(q, 1)).append(' ');
        }
        return seen.append(x.town(0, 50)).append(' ').append(x.town(1, 99)).toString();
    }

    /** A call that is refused: it answers so, and leaves all as it was. */
    static void refused(ThousandLeaflets x, String call, long want, LongSupplier made) {
        String before = state(x);
        due(call, want, made.getAsLong());
        String after = state(x);
        due(call + " leaves all as it was", true, after.equals(before));
    }
}
