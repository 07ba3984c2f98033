import java.util.function.IntToLongFunction;

/** Of each promise, 1 to 34, its own sentence at its edges: too small, too large, empty, full, refused. */
public final class PromiseEdgesTest {
    public static void main(String[] args) {
        promise1();
        promise2();
        promise3();
        promise4();
        promise5();
        promise6();
        promise7();
        promise8();
        promise9();
        promise10();
        promise11();
        promise12();
        promise13();
        promise14();
        promise15();
        promise16();
        promise17();
        promise18();
        promise19();
        promise20();
        promise21();
        promise22();
        promise23();
        promise24();
        promise25();
        promise26();
        promise27();
        promise28();
        promise29();
        promise30();
        promise31();
        promise32();
        promise33();
        promise34();
        Kit.end();
    }

    private static final int NONE = ThousandLeaflets.NONE;
    private static final int FALSE = 0;

    /** A call with all that is just beyond a bound and all that is far beyond it in one place: refused each time. */
    private static void beyond(ThousandLeaflets x, String what, long want, int least, int most, IntToLongFunction made) {
        Kit.refused(x, what + " " + (least - 1), want, () -> made.applyAsLong(least - 1));
        Kit.refused(x, what + " " + (most + 1), want, () -> made.applyAsLong(most + 1));
        for (int far : Kit.FAR) {
            Kit.refused(x, what + " " + far, want, () -> made.applyAsLong(far));
        }
    }

    /** Book 0 of two pages and a hidden one, book 1 not told; quarter 0 has a paper of each byte, quarter 1 is full. */
    private static ThousandLeaflets some() {
        ThousandLeaflets x = Kit.told(2, "odds 1 1; odds 2 1; sum 0 1; seal 77;");
        x.comes(0, 0, 0, 3);
        x.comes(0, 0, 1, 1);
        x.comes(0, 0, 2, 2);
        Kit.fill(x, 1, 0, 40);
        return x;
    }

    private static int flag(boolean answer) {
        return answer ? 1 : 0;
    }

    private static void promise1() {
        Kit.says("No BOOK; four empty HEAPS.");
        ThousandLeaflets x = new ThousandLeaflets();
        for (int q = 0; q < 4; q++) {
            Kit.due("count(" + q + ")", 0, x.count(q));
            Kit.due("no paper in quarter " + q, 1, Kit.thrown(x, q, 0, 0));
            Kit.due("none goes away", false, x.away(q, 0));
        }
        for (int b = 0; b < 2; b++) {
            int book = b;
            Kit.due("count(" + (4 + b) + ")", 0, x.count(4 + b));
            Kit.refused(x, "page", FALSE, () -> flag(x.page(book, 0, 0)));
            Kit.refused(x, "draw", NONE, () -> x.draw(book));
            Kit.refused(x, "leaflet", NONE, () -> x.leaflet(book, 0, 0));
            Kit.refused(x, "told", NONE, () -> x.told(book, 0));
            Kit.refused(x, "comes", NONE, () -> x.comes(0, book, 0, 3));
            Kit.refused(x, "slip", NONE, () -> x.slip(0, book, 0, 1));
            Kit.refused(x, "forged", NONE, () -> x.forged(0, book, 0, 0, 0));
            Kit.refused(x, "peels", NONE, () -> x.peels(0, book, 0, 0));
            Kit.refused(x, "solves", NONE, () -> x.solves(0, book, 0, 0));
            Kit.refused(x, "read", NONE, () -> x.read(0, book, 0, 0));
            Kit.refused(x, "soon", NONE, () -> x.soon(0, book, 0, 0));
            Kit.refused(x, "slipped", NONE, () -> x.slipped(0, book, 0, 0));
            Kit.refused(x, "right", NONE, () -> x.right(0, book, 0, 0));
            Kit.refused(x, "doubles", NONE, () -> x.doubles(0, book, 0));
            Kit.refused(x, "guard", NONE, () -> x.guard(0, book, 0, 0));
            Kit.refused(x, "tocome", NONE, () -> x.tocome(0, book, 0));
            Kit.refused(x, "chances", NONE, () -> x.chances(book, 1, 0, 0));
            Kit.refused(x, "enough", NONE, () -> x.enough(book, 1, 0, true));
            Kit.refused(x, "average", NONE, () -> x.average(book, 1, 0, 0));
            Kit.refused(x, "degree", NONE, () -> x.degree(book, 1, 0, 0));
            Kit.refused(x, "scatter", NONE, () -> x.scatter(book, 0, 0));
            Kit.refused(x, "needs", NONE, () -> x.needs(0, book));
            Kit.refused(x, "town", NONE, () -> x.town(book, 0));
        }
        Kit.refused(x, "swap of empty heaps", 0, () -> x.swap(0, 1, 40));
        Kit.refused(x, "mark back", FALSE, () -> flag(x.mark(0, true)));
        Kit.due("two objects share nothing", 1, flag(new ThousandLeaflets().book(0, 4)) + x.count(4));
    }

    private static void promise2() {
        Kit.says("A BOOK of n PAGES, anew (all 0, without a DRAW; its PAPERS and the NAMELESS ones are gone): true; false: others.");
        ThousandLeaflets x = some();
        x.nameless(2, 0, 0);
        x.mark(0, false);
        beyond(x, "n", FALSE, 1, 16, n -> flag(x.book(0, n)));
        beyond(x, "book", FALSE, 0, 1, b -> flag(x.book(b, 1)));
        Kit.due("a mark stays by them", true, x.mark(0, true));
        x.book(1, 16);
        Kit.due("the nameless one is gone", 0, x.count(2));
        Kit.due("the papers of the other book are not", 43, x.count(0) + x.count(1));
        x.comes(0, 1, 0, 3);
        x.comes(1, 1, 0, 3);
        Kit.due("of as many pages, anew", true, x.book(0, 2));
        Kit.due("its papers are gone", 1, x.count(0));
        Kit.due("of a full heap, too", 0, x.count(1));
        Kit.due("all 0", 0, x.told(0, 0) + x.told(0, 1));
        Kit.due("without a draw: no hidden page", 2, x.count(4));
        Kit.due("without a seal", 0, x.leaflet(0, 9, 2));
        ThousandLeaflets fresh = new ThousandLeaflets();
        fresh.book(0, 2);
        for (int i = 0; i < 80; i++) {
            Kit.due("the leaflets are drawn anew, " + i, fresh.leaflet(0, i, 0), x.leaflet(0, i, 0));
        }
        Kit.due("the paper of book 1 came up", 1, x.paper(0, 0, 0));
    }

    private static void promise3() {
        Kit.says("A PAGE: true; false: none such, another number, a PAPER of the BOOK or a NAMELESS one is in a HEAP.");
        ThousandLeaflets x = Kit.told(2, "sum 0 1;");
        beyond(x, "book", FALSE, 0, 0, b -> flag(x.page(b, 0, 1)));
        beyond(x, "page", FALSE, 0, 1, p -> flag(x.page(0, p, 1)));
        beyond(x, "v", FALSE, 0, 65535, v -> flag(x.page(0, 1, v)));
        Kit.due("a hidden page", false, x.page(0, 2, 1));
        x.book(1, 1);
        for (int q = 0; q < 4; q++) {
            x.comes(q, 0, 0, 1 + q % 3);
            Kit.refused(x, "a paper of the book in quarter " + q, FALSE, () -> flag(x.page(0, 0, 9)));
            Kit.due("the other book", true, x.page(1, 0, q));
            x.away(q, 0);
            x.nameless(q, 0, 0);
            Kit.refused(x, "a nameless one in quarter " + q, FALSE, () -> flag(x.page(0, 0, 9)));
            Kit.refused(x, "a nameless one in quarter " + q, FALSE, () -> flag(x.page(1, 0, 9)));
            x.away(q, 0);
        }
        Kit.due("all are away", true, x.page(0, 0, 65535));
        Kit.due("told", 65535, x.told(0, 0));
        x.mark(0, false);
        Kit.due("again, the same", true, x.page(0, 0, 65535));
    }

    private static void promise4() {
        Kit.says("Up to 24 signs come behind the TAPE: the bytes of a, b, c, of each the highest first;"
            + " others than 10 and 32 .. 126, and what is beyond 1,000, are left out: how many there are.");
        ThousandLeaflets x = new ThousandLeaflets();
        x.book(0, 1);
        Kit.due("none", 0, x.feed(0, 0, 0));
        Kit.due("none of -1", 0, x.feed(-1L, -1L, -1L));
        Kit.due("none of 128 to 255", 0, x.feed(0x8081828384858687L, Long.MIN_VALUE, 0xFFFEFDFCFBFAF9F8L));
        Kit.due("none of 0 to 31 but 10", 1, x.feed(0x0102030405060708L, 0x090A0B0C0D0E0F10L, 0x1112131F00000000L));
        Kit.due("32 and 126, not 127", 3, x.feed(0x1F207E7F80000000L, 0, 0));
        Kit.due("their order: 126 is at place 2", 1 + 16 * 2, x.draw(0));
        Kit.due("all 24", 24, x.feed(0x2020202020202020L, 0x2020202020202020L, 0x2020202020202020L));
        Kit.due("the highest first, then b, then c", 29, x.feed(0x7365L << 48, 0x616CL, 0x33000000000000L));
        Kit.due("no end", 1 + 16 * 29, x.draw(0));
        for (int i = 1; i <= 41; i++) {
            Kit.due("24 more", 24 * i, x.feed(0x2020202020202020L, 0x2020202020202020L, 0x2020202020202020L));
        }
        Kit.due("16 have room", 1000, x.feed(0x2020202020202020L, 0x202020202020203BL, 0x7878787878787878L));
        Kit.due("none has", 1000, x.feed(-1L, 0x3B, 0));
        Kit.due("the 1,000th is the last", 1 + 16 * 999, x.draw(0));
    }

    private static void promise5() {
        Kit.says("The TAPE is read as THE DRAW of a BOOK: 0; its FAULT (it stays as it was); -1: no such BOOK told,"
            + " a PAPER of it or a NAMELESS one is in a HEAP (the TAPE is empty).");
        ThousandLeaflets x = Kit.told(2, "odds 2 1; seal 9;");
        Kit.refused(x, "a fault", 1 + 16 * 4, () -> Kit.draw(x, 0, "seal"));
        for (int book : new int[] {Integer.MIN_VALUE, -1, 1, 2, Integer.MAX_VALUE}) {
            Kit.refused(x, "book " + book, -1, () -> Kit.draw(x, book, "odds 1 1;"));
        }
        x.comes(3, 0, 0, 2);
        Kit.refused(x, "a paper of it", -1, () -> Kit.draw(x, 0, "odds 1 1;"));
        Kit.refused(x, "a paper of it, and a fault", -1, () -> Kit.draw(x, 0, "odds"));
        x.away(3, 0);
        x.nameless(3, 0, 0);
        Kit.refused(x, "a nameless one", -1, () -> Kit.draw(x, 0, "odds 1 1;"));
        x.away(3, 0);
        Kit.due("an empty tape", 0, x.draw(0));
        Kit.due("has neither odds nor seal", 1, x.leaflet(0, 0, 3) + x.leaflet(0, 0, 2));
    }

    private static void promise6() {
        Kit.says("Of the LEAFLET of a NUMBER, what 0: its pages as bits, 1: SUM, 2: SEAL, 3: how many pages; NONE: no such BOOK told, NUMBER, what.");
        ThousandLeaflets x = some();
        beyond(x, "book", NONE, 0, 0, b -> x.leaflet(b, 0, 0));
        beyond(x, "number", NONE, 0, 9999, i -> x.leaflet(0, i, 0));
        beyond(x, "what", NONE, 0, 3, w -> x.leaflet(0, 0, w));
        for (int i : new int[] {0, 9999}) {
            int pages = x.leaflet(0, i, 0);
            int sum = x.leaflet(0, i, 1);
            Kit.due("pages", true, pages > 0 && pages < 8);
            Kit.due("sum", ((pages & 1) ^ (pages >> 2 & 1)) * 257 ^ ((pages >> 1 & 1) ^ (pages >> 2 & 1)) * 514, sum);
            Kit.due("seal", ((i + 1) * 77 + 31 * sum) % 997, x.leaflet(0, i, 2));
            Kit.due("how many", Integer.bitCount(pages), x.leaflet(0, i, 3));
        }
    }

    private static void promise7() {
        Kit.says("A page (HIDDEN ones, too), as it was told; NONE: none such.");
        ThousandLeaflets x = some();
        beyond(x, "book", NONE, 0, 0, b -> x.told(b, 0));
        beyond(x, "page", NONE, 0, 2, p -> x.told(0, p));
        Kit.due("page 31", NONE, x.told(0, 31));
        Kit.due("page 32", NONE, x.told(0, 32));
        Kit.due("page 0", 257, x.told(0, 0));
        Kit.due("the hidden one", 771, x.told(0, 2));
        x.slip(2, 0, 3, 997);
        Kit.due("as it was told, not as it came", 257, x.told(0, 0));
    }

    private static void promise8() {
        Kit.says("The LEAFLET comes to a HEAP with these BYTES (1 to 3): its place there; NONE: none such, no room.");
        ThousandLeaflets x = some();
        beyond(x, "quarter", NONE, 0, 3, q -> x.comes(q, 0, 0, 3));
        beyond(x, "book", NONE, 0, 0, b -> x.comes(0, b, 0, 3));
        beyond(x, "number", NONE, 0, 9999, i -> x.comes(0, 0, i, 3));
        beyond(x, "bytes", NONE, 1, 3, bytes -> x.comes(0, 0, 0, bytes));
        Kit.refused(x, "no room", NONE, () -> x.comes(1, 0, 9999, 3));
        Kit.refused(x, "no room for a torn one", NONE, () -> x.comes(1, 0, 9999, 1));
        Kit.due("an empty heap", 0, x.comes(3, 0, 9999, 3));
        Kit.due("the same once more", 1, x.comes(3, 0, 9999, 3));
        Kit.fill(x, 3, 0, 39);
        Kit.due("the last place", 39, x.comes(3, 0, 0, 2));
    }

    private static void promise9() {
        Kit.says("A PAPER with a slip comes: the LEAFLET with another SUM (either-or of its own and of error, 1 to 65535)"
            + " and its own SEAL: its place; NONE: none such, no room, THROWN OUT.");
        ThousandLeaflets x = Kit.told(2, "odds 2 1;");
        x.page(0, 0, 0x0f0f);
        x.page(0, 1, 0);
        beyond(x, "quarter", NONE, 0, 3, q -> x.slip(q, 0, 0, 1));
        beyond(x, "book", NONE, 0, 0, b -> x.slip(0, b, 0, 1));
        beyond(x, "number", NONE, 0, 9999, i -> x.slip(0, 0, i, 1));
        beyond(x, "error", NONE, 1, 65535, error -> x.slip(0, 0, 0, error));
        Kit.due("error 1", 0, x.slip(0, 0, 0, 1));
        Kit.due("error 65535", 1, x.slip(0, 0, 9999, 65535));
        Kit.due("its sum", 0x0f0e, x.paper(0, 0, 2));
        Kit.due("its sum", 0xf0f0, x.paper(0, 1, 2));
        Kit.due("both bytes", 3, x.paper(0, 0, 3));
        Kit.due("no seal", 0, x.paper(0, 0, 4));
        Kit.fill(x, 0, 0, 40);
        Kit.refused(x, "no room", NONE, () -> x.slip(0, 0, 0, 1));
        ThousandLeaflets y = Kit.told(1, "seal 5;");
        y.page(0, 0, 3);
        for (int error = 1; error <= 65535; error += 137) {
            boolean same = ((3 ^ error) - 3) % 997 == 0;
            int thrown = y.count(7);
            Kit.due("error " + error, same ? y.count(0) : NONE, y.slip(0, 0, 0, error));
            Kit.due("thrown out", same ? thrown : thrown + 1, y.count(7));
        }
        Kit.due("another sum of the same seal", 0, y.slip(3, 0, 0, 3 ^ 1000));
        Kit.due("it is its own", (5 + 31 * 3) % 997, y.paper(3, 0, 4));
    }

    private static void promise10() {
        Kit.says("A PAPER comes that is told (SUM 0 to 65535, SEAL 0 to 996): its place; NONE: others, no room, THROWN OUT.");
        ThousandLeaflets x = Kit.told(2, "");
        beyond(x, "quarter", NONE, 0, 3, q -> x.forged(q, 0, 0, 1, 1));
        beyond(x, "book", NONE, 0, 0, b -> x.forged(0, b, 0, 1, 1));
        beyond(x, "number", NONE, 0, 9999, i -> x.forged(0, 0, i, 1, 1));
        beyond(x, "sum", NONE, 0, 65535, sum -> x.forged(0, 0, 0, sum, 1));
        beyond(x, "seal", NONE, 0, 996, seal -> x.forged(0, 0, 0, 1, seal));
        Kit.due("the least", 0, x.forged(0, 0, 0, 0, 0));
        Kit.due("the most", 1, x.forged(0, 0, 9999, 65535, 996));
        Kit.due("sum", 65535, x.paper(0, 1, 2));
        Kit.due("both bytes", 3, x.paper(0, 1, 3));
        Kit.due("seal", 996, x.paper(0, 1, 4));
        Kit.fill(x, 0, 0, 40);
        Kit.refused(x, "no room", NONE, () -> x.forged(0, 0, 0, 0, 0));
        ThousandLeaflets y = Kit.told(2, "seal 996;");
        for (int seal = 0; seal <= 996; seal += 3) {
            int right = (10000 * 996 + 31 * 65535) % 997;
            Kit.due("seal " + seal, seal == right ? y.count(2) : NONE, y.forged(2, 0, 9999, 65535, seal));
        }
        Kit.due("thrown out", 333 - y.count(2), y.count(7));
    }

    private static void promise11() {
        Kit.says("A NAMELESS PAPER comes (both BYTES, SEAL 0): its place; NONE: others, no room, 6 are there.");
        ThousandLeaflets x = some();
        beyond(x, "quarter", NONE, 0, 3, q -> x.nameless(q, 0, 0));
        beyond(x, "number", NONE, 0, 9999, i -> x.nameless(0, i, 0));
        beyond(x, "sum", NONE, 0, 65535, sum -> x.nameless(0, 0, sum));
        Kit.refused(x, "no room", NONE, () -> x.nameless(1, 0, 0));
        for (int i = 0; i < 6; i++) {
            Kit.due("nameless " + i, 3 + i, x.nameless(0, i % 2 * 9999, i % 3 * 32767));
        }
        Kit.refused(x, "6 are there", NONE, () -> x.nameless(0, 0, 0));
        Kit.due("others come", 9, x.comes(0, 0, 0, 3));
        Kit.due("both bytes", 3, x.paper(0, 3, 3));
        Kit.due("seal 0", 0, x.paper(0, 3, 4));
        x.away(1, 0);
        Kit.due("room for one", 39, x.nameless(1, 0, 0));
        Kit.refused(x, "no room, though 6 are not there", NONE, () -> x.nameless(1, 0, 0));
    }

    private static void promise12() {
        Kit.says("Of a PAPER, what 0: its BOOK (NONE: NAMELESS), 1: NUMBER, 2: SUM, 3: BYTES, 4: SEAL,"
            + " 5: how many of its pages are not known by peeling in all of its BYTES (of a NAMELESS one NONE).");
        ThousandLeaflets x = Kit.told(3, "odds 1 1; odds 2 1; odds 3 1;");
        x.comes(0, 0, Kit.number(x, 7), 3);
        x.comes(0, 0, Kit.number(x, 7), 1);
        x.comes(0, 0, Kit.number(x, 7), 2);
        x.nameless(0, 5, 6);
        for (int place = 0; place < 3; place++) {
            Kit.due("none is known", 3, x.paper(0, place, 5));
        }
        x.comes(0, 0, Kit.number(x, 1), 1);
        Kit.due("page 0 in the low byte alone: not in all of both", 3, x.paper(0, 0, 5));
        Kit.due("of the low one", 2, x.paper(0, 1, 5));
        Kit.due("of the high one", 3, x.paper(0, 2, 5));
        x.comes(0, 0, Kit.number(x, 2), 2);
        Kit.due("page 1 in the high byte alone: none in both", 3, x.paper(0, 0, 5));
        x.comes(0, 0, Kit.number(x, 1), 2);
        Kit.due("page 0 in both, the high byte is all known", 2, x.paper(0, 0, 5));
        Kit.due("the high one", 0, x.paper(0, 2, 5));
        Kit.due("nameless: its book", NONE, x.paper(0, 3, 0));
        Kit.due("nameless: its number", 5, x.paper(0, 3, 1));
        Kit.due("nameless: its sum", 6, x.paper(0, 3, 2));
        Kit.due("nameless: its pages", NONE, x.paper(0, 3, 5));
        Kit.says("NoSuchElementException: none such.");
        ThousandLeaflets y = some();
        beyond(y, "quarter", 1, 0, 3, q -> Kit.thrown(y, q, 0, 0));
        beyond(y, "place", 1, 0, 2, place -> Kit.thrown(y, 0, place, 0));
        beyond(y, "place in a full heap", 1, 0, 39, place -> Kit.thrown(y, 1, place, 0));
        beyond(y, "place in an empty heap", 1, 0, -1, place -> Kit.thrown(y, 2, place, 0));
        beyond(y, "what", 1, 0, 5, what -> Kit.thrown(y, 0, 0, what));
        for (int what = 0; what <= 5; what++) {
            Kit.due("such", 0, Kit.thrown(y, 1, 39, what));
        }
    }

    private static void promise13() {
        Kit.says("A PAPER goes from its HEAP (those behind it come up): true; false: none such.");
        ThousandLeaflets x = some();
        beyond(x, "quarter", FALSE, 0, 3, q -> flag(x.away(q, 0)));
        beyond(x, "place", FALSE, 0, 2, place -> flag(x.away(0, place)));
        beyond(x, "place in a full heap", FALSE, 0, 39, place -> flag(x.away(1, place)));
        Kit.refused(x, "an empty heap", FALSE, () -> flag(x.away(2, 0)));
        Kit.due("the last one", true, x.away(0, 2));
        Kit.due("the first", true, x.away(0, 0));
        Kit.due("the one between came up", 1, x.paper(0, 0, 1));
        Kit.due("the only one", true, x.away(0, 0));
        Kit.due("empty", 0, x.count(0));
        Kit.due("no more", false, x.away(0, 0));
        Kit.due("another heap stays", 40, x.count(1));
    }

    private static void promise14() {
        Kit.says("PEELING of a BYTE, what 0: the known pages as bits, 1: how many QUARREL, 2: WORK, 3: LEFT;"
            + " NONE: no such QUARTER, BOOK told, BYTE, what.");
        ThousandLeaflets x = some();
        beyond(x, "quarter", NONE, 0, 3, q -> x.peels(q, 0, 0, 0));
        beyond(x, "book", NONE, 0, 0, b -> x.peels(0, b, 0, 0));
        beyond(x, "byte", NONE, 0, 1, octet -> x.peels(0, 0, octet, 0));
        beyond(x, "what", NONE, 0, 3, what -> x.peels(0, 0, 0, what));
        Kit.due("an empty heap: none known", 0, x.peels(2, 0, 1, 0));
        Kit.due("none quarrels", 0, x.peels(2, 0, 1, 1));
        Kit.due("no work", 0, x.peels(2, 0, 1, 2));
        Kit.due("the hidden equation is left", 1, x.peels(2, 0, 1, 3));
        int pages = x.leaflet(0, 0, 0);
        boolean one = Integer.bitCount(pages) == 1;
        Kit.due("a full heap of one leaflet", one ? pages : 0, x.peels(1, 0, 0, 0));
        Kit.due("its work", one ? 40 + 1 - 1 : 0, x.peels(1, 0, 0, 2));
        Kit.due("what is left", one ? 1 : 41, x.peels(1, 0, 0, 3));
    }

    private static void promise15() {
        Kit.says("SOLVING of a BYTE, what 0: the FIXED pages as bits, 1: 1 if the EQUATIONS AGREE, else 0, 2: RANK, 3: MISSING; NONE: as of peels().");
        ThousandLeaflets x = some();
        beyond(x, "quarter", NONE, 0, 3, q -> x.solves(q, 0, 0, 0));
        beyond(x, "book", NONE, 0, 0, b -> x.solves(0, b, 0, 0));
        beyond(x, "byte", NONE, 0, 1, octet -> x.solves(0, 0, octet, 0));
        beyond(x, "what", NONE, 0, 3, what -> x.solves(0, 0, 0, what));
        Kit.due("an empty heap: none fixed", 0, x.solves(2, 0, 1, 0));
        Kit.due("agrees", 1, x.solves(2, 0, 1, 1));
        Kit.due("rank of the hidden equation", 1, x.solves(2, 0, 1, 2));
        Kit.due("missing", 2, x.solves(2, 0, 1, 3));
        Kit.due("a full heap of one leaflet", 2, x.solves(1, 0, 0, 2));
    }

    private static void promise16() {
        Kit.says("A PAGE (HIDDEN, too) as it is READ; NONE: it is not, no such QUARTER, BOOK told, page, how.");
        ThousandLeaflets x = Kit.told(2, "odds 1 1; odds 2 1; sum 0 1;");
        x.comes(0, 0, Kit.number(x, 3), 3);
        Kit.due("the hidden page alone", 771, x.read(0, 0, 2, 1));
        Kit.due("not by peeling", NONE, x.read(0, 0, 2, 0));
        Kit.due("page 0 is not", NONE, x.read(0, 0, 0, 1));
        x.comes(0, 0, Kit.number(x, 2), 3);
        Kit.due("now it is", 257, x.read(0, 0, 0, 0));
        Kit.due("and the hidden one", 771, x.read(0, 0, 2, 0));
        beyond(x, "quarter", NONE, 0, 3, q -> x.read(q, 0, 0, 0));
        beyond(x, "book", NONE, 0, 0, b -> x.read(0, b, 0, 0));
        beyond(x, "page", NONE, 0, 2, p -> x.read(0, 0, p, 0));
        beyond(x, "how", NONE, 0, 1, how -> x.read(0, 0, 0, how));
        Kit.due("an empty heap", NONE, x.read(1, 0, 0, 0));
        Kit.due("page 32", NONE, x.read(0, 0, 32, 0));
    }

    private static void promise17() {
        Kit.says("SOON; NONE: likewise.");
        ThousandLeaflets x = Kit.told(2, "odds 1 1; odds 2 1; sum 0 1;");
        x.comes(0, 0, Kit.number(x, 3), 3);
        x.comes(0, 0, Kit.number(x, 2), 3);
        beyond(x, "quarter", NONE, 0, 3, q -> x.soon(q, 0, 0, 0));
        beyond(x, "book", NONE, 0, 0, b -> x.soon(0, b, 0, 0));
        beyond(x, "page", NONE, 0, 2, p -> x.soon(0, 0, p, 0));
        beyond(x, "how", NONE, 0, 1, how -> x.soon(0, 0, 0, how));
        Kit.due("an empty heap", NONE, x.soon(1, 0, 0, 0));
        Kit.due("the hidden one by solving", 1, x.soon(0, 0, 2, 1));
        Kit.due("by peeling", 2, x.soon(0, 0, 2, 0));
        x.away(0, 1);
        Kit.due("it is not read", NONE, x.soon(0, 0, 2, 0));
        Kit.due("page 32", NONE, x.soon(0, 0, 32, 1));
    }

    private static void promise18() {
        Kit.says("SLIPPED of a BYTE, what 0: how many may be it, 1: the place of the first, 2: 1 if SURE, else 0;"
            + " NONE: no such QUARTER, BOOK told, BYTE, what, they AGREE, none may be (1).");
        ThousandLeaflets x = Kit.told(1, "");
        for (int what = 0; what < 3; what++) {
            Kit.due("an empty heap agrees", NONE, x.slipped(0, 0, 0, what));
        }
        x.comes(0, 0, 0, 3);
        x.slip(0, 0, 1, 0x0101);
        x.comes(0, 0, 2, 3);
        beyond(x, "quarter", NONE, 0, 3, q -> x.slipped(q, 0, 0, 0));
        beyond(x, "book", NONE, 0, 0, b -> x.slipped(0, b, 0, 0));
        beyond(x, "byte", NONE, 0, 1, octet -> x.slipped(0, 0, octet, 0));
        beyond(x, "what", NONE, 0, 2, what -> x.slipped(0, 0, 0, what));
        for (int octet = 0; octet < 2; octet++) {
            Kit.due("how many", 1, x.slipped(0, 0, octet, 0));
            Kit.due("the place", 1, x.slipped(0, 0, octet, 1));
            Kit.due("sure", 1, x.slipped(0, 0, octet, 2));
        }
        x.slip(0, 0, 3, 0x0200);
        Kit.due("none may be: how many", 0, x.slipped(0, 0, 1, 0));
        Kit.due("none may be: the place", NONE, x.slipped(0, 0, 1, 1));
        Kit.due("none may be: not sure", 0, x.slipped(0, 0, 1, 2));
        Kit.due("the low byte as before", 1, x.slipped(0, 0, 0, 1));
    }

    private static void promise19() {
        Kit.says("The BYTE of a page that is PUT RIGHT; NONE: as of slipped(), no such page, it is not.");
        ThousandLeaflets x = Kit.told(2, "odds 1 1; sum 0 1;");
        x.page(0, 0, 0xff00);
        x.page(0, 1, 0x00ff);
        x.comes(0, 0, Kit.number(x, 1), 3);
        x.comes(0, 0, Kit.number(x, 2), 3);
        Kit.due("they agree", NONE, x.right(0, 0, 0, 0));
        x.slip(0, 0, Kit.number(x, 0, 1, 1), 0x4040);
        x.comes(0, 0, Kit.number(x, 0, 1, 2), 3);
        beyond(x, "quarter", NONE, 0, 3, q -> x.right(q, 0, 0, 0));
        beyond(x, "book", NONE, 0, 0, b -> x.right(0, b, 0, 0));
        beyond(x, "byte", NONE, 0, 1, octet -> x.right(0, 0, octet, 0));
        beyond(x, "page", NONE, 0, 2, p -> x.right(0, 0, 0, p));
        Kit.due("a byte of 0", 0, x.right(0, 0, 0, 0));
        Kit.due("a byte of 255", 255, x.right(0, 0, 1, 0));
        Kit.due("page 1", 255, x.right(0, 0, 0, 1));
        Kit.due("the hidden page", 255, x.right(0, 0, 1, 2));
        x.away(0, 1);
        Kit.due("page 1 is not", NONE, x.right(0, 0, 0, 1));
        x.slip(0, 0, Kit.number(x, 0, 1, 3), 0x0101);
        Kit.due("none may be", NONE, x.right(0, 0, 0, 0));
    }

    private static void promise20() {
        Kit.says("DOUBLES of a BYTE: how many; NONE: no such QUARTER, BOOK told, BYTE.");
        ThousandLeaflets x = some();
        beyond(x, "quarter", NONE, 0, 3, q -> x.doubles(q, 0, 0));
        beyond(x, "book", NONE, 0, 0, b -> x.doubles(0, b, 0));
        beyond(x, "byte", NONE, 0, 1, octet -> x.doubles(0, 0, octet));
        Kit.due("an empty heap", 0, x.doubles(2, 0, 0));
        Kit.due("a full one", 40, x.doubles(1, 0, 1));
    }

    private static void promise21() {
        Kit.says("GUARD of a page (HIDDEN, too); NONE: likewise, no such page, it is not FIXED, more than 3.");
        ThousandLeaflets x = Kit.told(2, "odds 1 1; sum 0 1;");
        x.comes(0, 0, Kit.number(x, 1), 3);
        x.comes(0, 0, Kit.number(x, 2), 3);
        beyond(x, "quarter", NONE, 0, 3, q -> x.guard(q, 0, 0, 0));
        beyond(x, "book", NONE, 0, 0, b -> x.guard(0, b, 0, 0));
        beyond(x, "byte", NONE, 0, 1, octet -> x.guard(0, 0, octet, 0));
        beyond(x, "page", NONE, 0, 2, p -> x.guard(0, 0, 0, p));
        Kit.due("one for the hidden page", 1, x.guard(0, 0, 0, 2));
        Kit.due("an empty heap", NONE, x.guard(1, 0, 0, 2));
        x.comes(0, 0, Kit.number(x, 4), 3);
        Kit.due("two", 2, x.guard(0, 0, 0, 2));
        x.comes(0, 0, Kit.number(x, 4), 3);
        Kit.due("three", 3, x.guard(0, 0, 0, 2));
        x.comes(0, 0, Kit.number(x, 4), 3);
        Kit.due("four are more than 3", NONE, x.guard(0, 0, 0, 2));
        Kit.due("page 0: its own paper and the other one's", 2, x.guard(0, 0, 0, 0));
        x.slip(0, 0, Kit.number(x, 1), 1);
        Kit.due("they do not agree: not fixed", NONE, x.guard(0, 0, 0, 0));
        Kit.due("the high byte does", 3, x.guard(0, 0, 1, 0));
    }

    private static void promise22() {
        Kit.says("TO COME, what 0: how many, 1: which, as bits by NUMBERS; NONE: no such QUARTER, BOOK told, what, a BYTE does not AGREE, none.");
        ThousandLeaflets x = some();
        beyond(x, "quarter", NONE, 0, 3, q -> x.tocome(q, 0, 0));
        beyond(x, "book", NONE, 0, 0, b -> x.tocome(0, b, 0));
        beyond(x, "what", NONE, 0, 1, what -> x.tocome(0, 0, what));
        int set = x.tocome(2, 0, 1);
        Kit.due("an empty heap: two", 2, x.tocome(2, 0, 0));
        Kit.due("as many bits, of 0 to 10", true, Integer.bitCount(set) == 2 && set < 2048);
        ThousandLeaflets y = Kit.told(1, "");
        for (int octet = 0; octet < 2; octet++) {
            y.comes(octet, 0, 0, 3);
            y.slip(octet, 0, 1, 1 << 8 * octet);
            Kit.due("a byte does not agree", NONE, y.tocome(octet, 0, 0));
            Kit.due("a byte does not agree", NONE, y.tocome(octet, 0, 1));
        }
        ThousandLeaflets z = Kit.told(12, "");
        Kit.due("eleven are not enough for twelve pages", NONE, z.tocome(0, 0, 0));
        Kit.due("nor as bits", NONE, z.tocome(0, 0, 1));
    }

    private static void promise23() {
        Kit.says("CHANCES: of the sets of k NUMBERS how many give all; NONE: no such BOOK told, m, k, how.");
        ThousandLeaflets x = some();
        beyond(x, "book", NONE, 0, 0, b -> x.chances(b, 5, 3, 0));
        beyond(x, "m", NONE, 1, 11, m -> x.chances(0, m, 0, 0));
        beyond(x, "k of 5", NONE, 0, 5, k -> x.chances(0, 5, k, 0));
        beyond(x, "k of 11", NONE, 0, 11, k -> x.chances(0, 11, k, 1));
        beyond(x, "how", NONE, 0, 1, how -> x.chances(0, 5, 3, how));
        Kit.due("k 0", 0, x.chances(0, 1, 0, 1));
        Kit.due("one of one", 0, x.chances(0, 1, 1, 1));
        Kit.due("all eleven", 1, x.chances(0, 11, 11, 1));
    }

    private static void promise24() {
        Kit.says("ENOUGH (half false), HALF (true); NONE: no such BOOK told, m, how, none.");
        ThousandLeaflets x = some();
        for (boolean half : new boolean[] {false, true}) {
            beyond(x, "book", NONE, 0, 0, b -> x.enough(b, 5, 0, half));
            beyond(x, "m", NONE, 1, 11, m -> x.enough(0, m, 0, half));
            beyond(x, "how", NONE, 0, 1, how -> x.enough(0, 5, how, half));
            Kit.due("none: one leaflet for two pages", NONE, x.enough(0, 1, 1, half));
        }
        Kit.due("half is no more than all", true, x.enough(0, 11, 1, true) <= x.enough(0, 11, 1, false));
    }

    private static void promise25() {
        Kit.says("AVERAGE, what 0: above, 1: below; NONE: no such BOOK told, m, how, what, all m do not give all.");
        ThousandLeaflets x = some();
        beyond(x, "book", NONE, 0, 0, b -> x.average(b, 5, 0, 0));
        beyond(x, "m", NONE, 1, 11, m -> x.average(0, m, 0, 0));
        beyond(x, "how", NONE, 0, 1, how -> x.average(0, 5, how, 0));
        beyond(x, "what", NONE, 0, 1, what -> x.average(0, 5, 0, what));
        Kit.due("one leaflet for two pages", NONE, x.average(0, 1, 1, 0));
        Kit.due("one leaflet for two pages", NONE, x.average(0, 1, 1, 1));
        Kit.due("above", true, x.average(0, 11, 1, 0) >= 2 * x.average(0, 11, 1, 1));
        ThousandLeaflets y = Kit.told(1, "");
        Kit.due("1 / 1", 1, y.average(0, 1, 0, 0));
        Kit.due("1 / 1", 1, y.average(0, 1, 0, 1));
    }

    private static void promise26() {
        Kit.says("BEST DEGREE; NONE: no such BOOK told, m, k, how.");
        ThousandLeaflets x = some();
        beyond(x, "book", NONE, 0, 0, b -> x.degree(b, 5, 3, 0));
        beyond(x, "m", NONE, 1, 11, m -> x.degree(0, m, 0, 0));
        beyond(x, "k of 5", NONE, 0, 5, k -> x.degree(0, 5, k, 0));
        beyond(x, "how", NONE, 0, 1, how -> x.degree(0, 5, 3, how));
        Kit.due("k 0", 1, x.degree(0, 1, 0, 0));
        Kit.refused(x, "the draw stays as it is", x.degree(0, 11, 11, 1), () -> x.degree(0, 11, 11, 1));
    }

    private static void promise27() {
        Kit.says("APART of a PAPER of a HEAP: 0 or 1 its BOOK, 2 either; NONE: none such, not NAMELESS, a BOOK is not told, no way.");
        ThousandLeaflets x = Kit.told(1, "");
        x.book(1, 1);
        x.nameless(0, 0, 0);
        x.comes(0, 1, 0, 3);
        x.nameless(0, 1, 257);
        beyond(x, "quarter", NONE, 0, 3, q -> x.apart(q, 0));
        beyond(x, "place", NONE, 0, 2, place -> x.apart(0, place));
        Kit.refused(x, "an empty heap", NONE, () -> x.apart(1, 0));
        Kit.due("of book 1, for book 0 has the other one", 1, x.apart(0, 0));
        Kit.due("not nameless", NONE, x.apart(0, 1));
        Kit.due("of book 0", 0, x.apart(0, 2));
        x.nameless(0, 2, 5);
        Kit.due("no way", NONE, x.apart(0, 0));
        x.nameless(3, 2, 5);
        Kit.due("either", 2, x.apart(3, 0));
    }

    private static void promise28() {
        Kit.says("BURN and HOUSES of a QUARTER: true; false: others.");
        ThousandLeaflets x = some();
        beyond(x, "quarter", FALSE, 0, 3, q -> flag(x.quarter(q, 50, 50)));
        for (int q = 0; q < 4; q++) {
            int quarter = q;
            beyond(x, "burn", FALSE, 0, 100, burn -> flag(x.quarter(quarter, burn, 50)));
            beyond(x, "houses", FALSE, 0, 999, houses -> flag(x.quarter(quarter, 50, houses)));
            Kit.due("the least", true, x.quarter(q, 0, 0));
            Kit.due("all fall", true, x.needs(q, 0) > 0);
            Kit.due("the most", true, x.quarter(q, 100, 999));
            Kit.due("none falls", NONE, x.needs(q, 0));
            Kit.due("houses", 3 - q + 999 * (q + 1), x.count(8));
        }
        x.book(0, 2);
        Kit.due("a book told anew leaves them", 3996, x.count(8));
    }

    private static void promise29() {
        Kit.says("The LEAFLETS from .. to of a BOOK (0 to 9999, at most 100) are thrown over all QUARTERS: by NUMBERS, then by QUARTERS,"
            + " each that FALLS comes with both BYTES, if there is room and no PAPER alike; how many came; NONE: others.");
        ThousandLeaflets x = Kit.told(2, "seal 9;");
        beyond(x, "book", NONE, 0, 0, b -> x.scatter(b, 0, 0));
        beyond(x, "from", NONE, 0, 9999, from -> x.scatter(0, from, 9999));
        beyond(x, "to", NONE, 9990, 9999, to -> x.scatter(0, 9990, to));
        Kit.refused(x, "101", NONE, () -> x.scatter(0, 0, 100));
        Kit.refused(x, "101 at the end", NONE, () -> x.scatter(0, 9899, 9999));
        Kit.refused(x, "to below from", NONE, () -> x.scatter(0, 5, 4));
        Kit.refused(x, "below 0 by one", NONE, () -> x.scatter(0, -1, 0));
        Kit.due("one", 4, x.scatter(0, 9999, 9999));
        Kit.refused(x, "alike ones are there", 0, () -> x.scatter(0, 9999, 9999));
        Kit.due("both bytes", 3, x.paper(3, 0, 3));
        Kit.due("with the right seal", x.leaflet(0, 9999, 2), x.paper(3, 0, 4));
        Kit.due("one of another sum, the same seal", 1, x.forged(0, 0, 0, x.leaflet(0, 0, 1) + 997, x.leaflet(0, 0, 2)));
        Kit.due("100 of them: 39 have room, 38 in quarter 0", 38 + 39 * 3, x.scatter(0, 0, 99));
        for (int q = 0; q < 4; q++) {
            Kit.due("full", 40, x.count(q));
            Kit.due("by numbers", q == 0 ? 37 : 38, x.paper(q, 39, 1));
        }
        Kit.refused(x, "no room", 0, () -> x.scatter(0, 100, 199));
        for (int q = 0; q < 4; q++) {
            x.away(q, 0);
            Kit.due("room for one in quarter " + q, 1, x.scatter(0, 100, 199));
            Kit.due("the first that lacks", 100, x.paper(q, 39, 1));
        }
        ThousandLeaflets y = Kit.told(1, "");
        for (int q = 0; q < 4; q++) {
            y.quarter(q, 100, 1);
        }
        Kit.refused(y, "all burn", 0, () -> y.scatter(0, 0, 99));
        Kit.due("none is thrown out", 0, x.count(7) + y.count(7));
    }

    private static void promise30() {
        Kit.says("NEEDS of a QUARTER; NONE: no such QUARTER, BOOK told, none.");
        ThousandLeaflets x = some();
        beyond(x, "quarter", NONE, 0, 3, q -> x.needs(q, 0));
        beyond(x, "book", NONE, 0, 0, b -> x.needs(0, b));
        Kit.due("a full heap does not count", x.needs(1, 0), x.needs(2, 0));
        x.quarter(1, 100, 1);
        Kit.due("none", NONE, x.needs(1, 0));
    }

    private static void promise31() {
        Kit.says("TOWN; NONE: no such BOOK told, share, none.");
        ThousandLeaflets x = some();
        beyond(x, "book", NONE, 0, 0, b -> x.town(b, 50));
        beyond(x, "share", NONE, 0, 100, share -> x.town(0, share));
        Kit.due("share 0", 0, x.town(0, 0));
        Kit.due("share 100", x.needs(0, 0), x.town(0, 100));
        x.quarter(0, 100, 1);
        Kit.due("just three of four", x.needs(1, 0), x.town(0, 75));
        Kit.due("none", NONE, x.town(0, 76));
        Kit.due("share 0 all the same", 0, x.town(0, 0));
    }

    private static void promise32() {
        Kit.says("SWAP: how many QUARTER 'to' gets (k 0 to 40); NONE: none such, the same, another k.");
        ThousandLeaflets x = some();
        beyond(x, "from", NONE, 0, 3, from -> x.swap(from, 2, 1));
        beyond(x, "to", NONE, 0, 3, to -> x.swap(0, to, 1));
        beyond(x, "k", NONE, 0, 40, k -> x.swap(0, 2, k));
        for (int q = 0; q < 4; q++) {
            int quarter = q;
            Kit.refused(x, "the same", NONE, () -> x.swap(quarter, quarter, 1));
        }
        Kit.refused(x, "k 0", 0, () -> x.swap(0, 2, 0));
        Kit.refused(x, "to a full heap", 0, () -> x.swap(0, 1, 40));
        Kit.refused(x, "from an empty heap", 0, () -> x.swap(3, 0, 40));
        Kit.due("forty alike are one", 1, x.swap(1, 3, 40));
        Kit.due("it has that one", 2, x.swap(0, 3, 40));
        ThousandLeaflets y = Kit.told(1, "");
        for (int i = 0; i < 40; i++) {
            y.comes(0, 0, i, 3);
        }
        Kit.due("all forty", 40, y.swap(0, 1, 40));
        Kit.due("39", 39, y.swap(0, 2, 39));
        Kit.due("the giver keeps its own", 40, y.count(0));
    }

    private static void promise33() {
        Kit.says("The HEAPS are copied to a MARK (back: taken from it): true; false: none such, nothing is on it (back).");
        ThousandLeaflets x = some();
        for (boolean back : new boolean[] {false, true}) {
            beyond(x, "mark", FALSE, 0, 3, mark -> flag(x.mark(mark, back)));
        }
        for (int mark = 0; mark < 4; mark++) {
            int of = mark;
            Kit.refused(x, "nothing is on it", FALSE, () -> flag(x.mark(of, true)));
        }
        Kit.due("to mark 3", true, x.mark(3, false));
        Kit.refused(x, "nothing is on another", FALSE, () -> flag(x.mark(2, true)));
        String before = Kit.state(x);
        for (int q = 0; q < 4; q++) {
            for (int i = x.count(q); i > 0; i--) {
                x.away(q, 0);
            }
        }
        Kit.due("empty heaps to mark 0", true, x.mark(0, false));
        Kit.due("back", true, x.mark(3, true));
        Kit.due("all as it was", true, before.equals(Kit.state(x)));
        Kit.due("back to nothing in the heaps", true, x.mark(0, true));
        Kit.due("which is something on the mark", 0, x.count(0) + x.count(1));
        Kit.due("a full heap again", true, x.mark(3, true));
        Kit.refused(x, "no room", NONE, () -> x.comes(1, 0, 0, 3));
        x.slip(0, 0, 0, 1);
        Kit.due("thrown out", 1, x.count(7));
        x.quarter(0, 0, 9);
        x.feed(0x3B, 0, 0);
        x.mark(0, true);
        Kit.due("what is thrown out stays", 1, x.count(7));
        Kit.due("the houses stay", 12, x.count(8));
        Kit.due("the tape stays", 1, x.count(6));
    }

    private static void promise34() {
        Kit.says("What 0 to 3: PAPERS in the HEAP of a QUARTER, 4, 5: ALL of a BOOK (0: not told), 6: signs on the TAPE,"
            + " 7: PAPERS that were THROWN OUT, 8: all HOUSES. NONE for another what.");
        ThousandLeaflets x = some();
        beyond(x, "what", NONE, 0, 8, what -> x.count(what));
        int[] due = {3, 40, 0, 0, 3, 0, 0, 0, 4};
        for (int what = 0; what <= 8; what++) {
            Kit.due("count(" + what + ")", due[what], x.count(what));
        }
        x.book(1, 16);
        Kit.feed(x, "odds");
        x.slip(2, 0, 0, 1);
        x.quarter(3, 0, 999);
        int[] then = {3, 40, 0, 0, 3, 16, 4, 1, 1002};
        for (int what = 0; what <= 8; what++) {
            Kit.due("count(" + what + ") then", then[what], x.count(what));
        }
    }
}
