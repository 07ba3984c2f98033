/** For each promise the ordinary, the edges and the wrong inputs, told by hand. */
public final class PromisesTest {
    private static int wrong = 0;

    private static void due(int promise, String what, long want, long got) {
        if (got != want) {
            wrong++;
            System.out.println("promise " + promise + ": " + what + " answered " + got + ", due is " + want);
        }
    }

    private static void due(int promise, String what, boolean want, boolean got) {
        due(promise, what, want ? 1 : 0, got ? 1 : 0);
    }

    private static int feed(ThousandLeaflets x, String text) {
        return Kit.feed(x, text);
    }

    private static int draw(ThousandLeaflets x, int book, String text) {
        return Kit.draw(x, book, text);
    }

    private static ThousandLeaflets told(int n, String text) {
        return Kit.told(n, text);
    }

    private static int number(ThousandLeaflets x, int book, int pages, int nth) {
        return Kit.number(x, book, pages, nth);
    }

    private static int number(ThousandLeaflets x, int pages) {
        return Kit.number(x, pages);
    }

    private static long thrown(ThousandLeaflets x, int quarter, int place, int what) {
        return Kit.thrown(x, quarter, place, what);
    }

    public static void main(String[] args) {
        newObject();
        books();
        pages();
        feeds();
        draws();
        faults();
        leaflets();
        fullBook();
        comings();
        seals();
        namelessOnes();
        papers();
        peeling();
        order();
        solving();
        soonest();
        slips();
        doublesAndGuards();
        toCome();
        chances();
        degrees();
        apart();
        scattering();
        needsAndTown();
        swaps();
        marks();
        System.out.println(wrong == 0 ? "all promises hold" : wrong + " answers are wrong");
        if (wrong != 0) {
            System.exit(1);
        }
    }

    private static void newObject() {
        ThousandLeaflets x = new ThousandLeaflets();
        for (int what = 0; what <= 7; what++) {
            due(1, "count(" + what + ")", 0, x.count(what));
        }
        due(34, "count(8)", 4, x.count(8));
        due(34, "count(9)", -1, x.count(9));
        due(34, "count(-1)", -1, x.count(-1));
        due(1, "told(0, 0)", -1, x.told(0, 0));
        due(1, "draw(0)", -1, x.draw(0));
        due(1, "mark(0, true)", false, x.mark(0, true));
    }

    private static void books() {
        ThousandLeaflets x = new ThousandLeaflets();
        due(2, "book(0, 16)", true, x.book(0, 16));
        due(2, "book(1, 1)", true, x.book(1, 1));
        due(2, "book(-1, 1)", false, x.book(-1, 1));
        due(2, "book(2, 1)", false, x.book(2, 1));
        due(2, "book(0, 0)", false, x.book(0, 0));
        due(2, "book(0, 17)", false, x.book(0, 17));
        due(2, "count(4) after false ones", 16, x.count(4));
        due(2, "draw", 0, draw(x, 0, "sum 0 15; odds 17 1;"));
        x.page(0, 0, 8);
        x.page(0, 3, 9);
        x.page(1, 0, 7);
        x.comes(0, 0, 0, 3);
        x.comes(0, 1, 0, 3);
        x.nameless(0, 0, 0);
        x.comes(0, 1, 1, 1);
        x.nameless(3, 0, 0);
        x.mark(2, false);
        due(2, "book(0, 4)", true, x.book(0, 4));
        due(2, "papers of the other book stay", 2, x.count(0));
        due(2, "in order", 0, x.paper(0, 0, 1));
        due(2, "in order", 1, x.paper(0, 1, 1));
        due(2, "the nameless are gone", 0, x.count(3));
        due(2, "pages are 0", 0, x.told(0, 0));
        due(2, "pages are 0", 0, x.told(0, 3));
        due(2, "without a draw", 4, x.count(4));
        due(2, "one page each", 1, x.leaflet(0, 5, 3));
        due(2, "the other book stays", 7, x.told(1, 0));
        due(33, "marks are forgotten as a book is told", false, x.mark(2, true));
    }

    private static void pages() {
        ThousandLeaflets x = new ThousandLeaflets();
        x.book(0, 2);
        due(3, "page(0, 1, 65535)", true, x.page(0, 1, 65535));
        due(3, "page(0, 0, 0)", true, x.page(0, 0, 0));
        due(3, "page(0, 2, 0)", false, x.page(0, 2, 0));
        due(3, "page(0, -1, 0)", false, x.page(0, -1, 0));
        due(3, "page(0, 0, -1)", false, x.page(0, 0, -1));
        due(3, "page(0, 0, 65536)", false, x.page(0, 0, 65536));
        due(3, "page(1, 0, 0)", false, x.page(1, 0, 0));
        due(3, "page(2, 0, 0)", false, x.page(2, 0, 0));
        draw(x, 0, "sum 0 1;");
        due(3, "a hidden page is no PAGE", false, x.page(0, 2, 5));
        due(7, "told of a hidden page", 65535, x.told(0, 2));
        due(7, "told(0, 3)", -1, x.told(0, 3));
        due(7, "told(0, -1)", -1, x.told(0, -1));
        due(7, "told(1, 0)", -1, x.told(1, 0));
        x.book(1, 1);
        x.comes(2, 1, 0, 3);
        due(3, "a paper of the other book is in a heap", true, x.page(0, 0, 1));
        due(3, "a paper of it is in a heap", false, x.page(1, 0, 1));
        due(7, "told after it", 65534, x.told(0, 2));
        x.nameless(3, 0, 0);
        due(3, "a nameless one is in a heap", false, x.page(0, 0, 2));
        due(3, "it stays", 1, x.told(0, 0));
    }

    private static void feeds() {
        ThousandLeaflets x = new ThousandLeaflets();
        x.book(0, 2);
        due(4, "feed(0, 0, 0)", 0, x.feed(0, 0, 0));
        due(4, "others are left out", 4, x.feed(0x091F7F80FF0A207EL, 0, 0x0D00000000000041L));
        due(5, "blanks are blanks, 126 is no token", 1 + 16 * 2, x.draw(0));
        due(4, "the highest first, a, b, c", 11, x.feed(0x6F6464732032L << 16 | 0x2031, 0x3BL << 56, 0x2020L));
        due(5, "odds 2 1;", 0, x.draw(0));
        due(6, "it draws two", 2, x.leaflet(0, 3, 3));
        for (int i = 0; i < 41; i++) {
            x.feed(0x2020202020202020L, 0x2020202020202020L, 0x2020202020202020L);
        }
        due(34, "count(6)", 984, x.count(6));
        due(4, "up to 1,000", 1000, x.feed(0x2020202020202020L, 0x2020202020202041L, 0x4141414141414141L));
        due(4, "no more", 1000, x.feed(0x2020202020202020L, 0, 0));
        due(5, "the 1,000th sign", 1 + 16 * 999, x.draw(0));
        due(5, "the tape is empty", 0, x.count(6));
    }

    private static void draws() {
        ThousandLeaflets x = told(3, "odds 3 1;");
        due(6, "three pages", 7, x.leaflet(0, 0, 0));
        due(5, "a fault", 1 + 16 * 8, draw(x, 0, "odds 1 1"));
        due(5, "it stays as it was", 7, x.leaflet(0, 0, 0));
        feed(x, "odds 1 1;");
        due(5, "draw(2)", -1, x.draw(2));
        due(5, "the tape is empty", 0, x.count(6));
        due(5, "an empty text", 0, x.draw(0));
        due(5, "has no odds", 1, x.leaflet(0, 0, 3));
        due(5, "without blanks, with many", 0, draw(x, 0, "\n odds1 5;odds2 5;\n\nfirst16 9;seal996;sum0 2 1;sum 0001 0002 ;\n"));
        due(34, "count(4)", 5, x.count(4));
        due(7, "a sum of three", 257 * 7, x.told(0, 3));
        due(7, "a sum of two", 257 * 6, x.told(0, 4));
        x.comes(1, 0, 0, 1);
        feed(x, "odds 1 1;");
        due(5, "a paper is in a heap", -1, x.draw(0));
        due(5, "the tape is empty", 0, x.count(6));
        x.away(1, 0);
        x.mark(0, false);
        due(5, "a fault again", 1, draw(x, 0, "x"));
        due(33, "a mark stays by a fault", true, x.mark(0, true));
        due(5, "odds 21 etc.", 0, draw(x, 0, "odds 20 999; odds 1 0;"));
        due(33, "a mark is forgotten as a draw is read", false, x.mark(0, true));
        due(6, "odds beyond all do not count", 1, x.leaflet(0, 77, 3));
        x.book(1, 2);
        x.comes(1, 1, 0, 3);
        due(5, "a paper of the other book", 0, draw(x, 0, "odds 2 1;"));
        x.nameless(1, 0, 0);
        due(5, "a nameless paper", -1, draw(x, 0, "odds 3 1;"));
        due(5, "it stays as it was", 2, x.leaflet(0, 9, 3));
    }

    private static void fault(int want, int place, String text) {
        ThousandLeaflets x = new ThousandLeaflets();
        x.book(0, 4);
        due(5, text, want == 0 ? 0 : want + 16 * place, draw(x, 0, text));
    }

    private static void faults() {
        fault(0, 0, "  \n ");
        fault(0, 0, "sum 0 1 2 3;sum 0 1;sum 0 1;sum 0 1;");
        fault(5, 36, "sum 0 1 2 3;sum 0 1;sum 0 1;sum 0 1;sum 0");
        fault(1, 5, "sum 0;");
        fault(1, 4, "sum ;");
        fault(1, 7, "sum 0 1");
        fault(1, 9, "sum 0 1  ");
        fault(4, 6, "sum 0 4;");
        fault(4, 4, "sum 9999;");
        fault(1, 4, "sum 10000;");
        fault(3, 8, "sum 0 1 0;");
        fault(3, 6, "sum 3 3;");
        fault(1, 0, ";");
        fault(1, 10, "odds 1 1 ;;");
        fault(1, 0, "Odds 1 1;");
        fault(1, 4, "oddsA 1 1;");
        fault(1, 0, "oddsa 1 1;");
        fault(1, 0, "abcdefghi");
        fault(1, 0, "5");
        fault(1, 0, "adds 1 1;");
        fault(1, 0, "zum 0 1;");
        fault(1, 0, "seat 1;");
        fault(1, 0, "firs 1 2;");
        fault(1, 5, "odds 12345 1;");
        fault(1, 8, "odds 1 1odds 2 1;");
        fault(1, 5, "odds ;");
        fault(1, 7, "odds 1 ;");
        fault(1, 9, "odds 1 1 1;");
        fault(4, 5, "odds 0 1;");
        fault(4, 5, "odds 21 1;");
        fault(0, 0, "odds 20 0;");
        fault(4, 7, "odds 1 1000;");
        fault(3, 14, "odds 1 0;odds 1 0;");
        fault(4, 14, "odds 1 0;odds 0 0;");
        fault(4, 6, "first 0 2;");
        fault(4, 6, "first 17 2;");
        fault(4, 8, "first 1 1;");
        fault(4, 8, "first 1 10;");
        fault(3, 10, "first 1 2;first 1 2;");
        fault(1, 9, "first 1 2");
        fault(4, 5, "seal 0;");
        fault(4, 5, "seal 997;");
        fault(3, 7, "seal 5;seal");
        fault(1, 4, "seal");
        fault(1, 5, "seal x;");
        fault(1, 6, "seal 1-;");
        fault(4, 5, "odds 99 x");
        ThousandLeaflets x = new ThousandLeaflets();
        x.book(0, 1);
        due(5, "a sum in a book of one page", 4 + 16 * 6, draw(x, 0, "sum 0 1;"));
        x.book(0, 16);
        due(5, "a sum of all sixteen", 0, draw(x, 0, "sum 15 14 13 12 11 10 9 8 7 6 5 4 3 2 1 0;"));
        due(5, "and of one too many", 4 + 16 * 42, draw(x, 0, "sum 15 14 13 12 11 10 9 8 7 6 5 4 3 2 1 0 16;"));
    }

    /** The draws of a leaflet again, in long and by the document's letters. */
    private static void leaflets() {
        ThousandLeaflets x = told(3, "odds 2 3; odds 4 5; first 16 7; sum 0 2; seal 100;");
        for (int number = 0; number <= 9999; number += 7) {
            long g = (number * 7919L + 1) % 2147483648L;
            g = (g * 1103515245L + 12345) % 2147483648L;
            int many = g / 65536 % 8 < 3 ? 2 : 4;
            due(6, "how many of " + number, many, x.leaflet(0, number, 3));
            g = (g * 1103515245L + 12345) % 2147483648L;
            // first holds for PAGES: the hidden page 3 weighs 1.
            long r = g / 65536 % 22;
            int first = r < 7 ? 0 : r < 14 ? 1 : r < 21 ? 2 : 3;
            due(6, "the first page of " + number, 1, x.leaflet(0, number, 0) >> first & 1);
        }
        int both = number(x, 9);
        due(6, "the sum with a hidden page", 257 * 4, x.leaflet(0, both, 1));
        due(6, "the seal", ((both + 1) * 100 + 31 * 257 * 4) % 997, x.leaflet(0, both, 2));
        due(6, "leaflet(0, 9999, 4)", -1, x.leaflet(0, 9999, 4));
        due(6, "leaflet(0, 9999, -1)", -1, x.leaflet(0, 9999, -1));
        due(6, "leaflet(0, -1, 0)", -1, x.leaflet(0, -1, 0));
        due(6, "leaflet(0, 10000, 0)", -1, x.leaflet(0, 10000, 0));
        due(6, "leaflet(1, 0, 0)", -1, x.leaflet(1, 0, 0));
        due(6, "leaflet(-1, 0, 0)", -1, x.leaflet(-1, 0, 0));
        // Book 1 has another start, and without odds how many is not drawn for.
        x.book(1, 16);
        for (int number = 0; number <= 9999; number += 11) {
            long g = (number * 7919L + 104729 + 1) % 2147483648L;
            g = (g * 1103515245L + 12345) % 2147483648L;
            due(6, "book 1, " + number, 1L << g / 65536 % 16, x.leaflet(1, number, 0));
        }
    }

    /** A book of twenty pages in all, the most that there can be. */
    private static void fullBook() {
        ThousandLeaflets x = told(16, "sum 0 15;sum 1 14;sum 2 13;sum 3 4 5 6; odds 20 1;");
        due(34, "count(4)", 20, x.count(4));
        due(6, "all twenty", 1048575, x.leaflet(0, 9999, 0));
        due(7, "the last hidden page", 257 * 120 & 65535, x.told(0, 19));
        due(7, "no more", -1, x.told(0, 20));
        x.comes(0, 0, 1, 3);
        due(14, "twenty unknown", 5, x.peels(0, 0, 0, 3));
        due(15, "missing", 15, x.solves(0, 0, 0, 3));
        x.away(0, 0);
        due(5, "nineteen or twenty", 0, draw(x, 0, "sum 0 15;sum 1 14;sum 2 13;sum 3 4 5 6; odds 20 0; odds 19 999;"));
        due(6, "nineteen", 19, x.leaflet(0, 1, 3));
        due(5, "ones", 0, draw(x, 0, "sum 0 15;sum 1 14;sum 2 13;sum 3 4 5 6; odds 1 1;"));
        for (int p = 0; p < 16; p++) {
            x.comes(1, 0, number(x, 1 << p), 3);
        }
        due(14, "all known by peeling", 1048575, x.peels(1, 0, 1, 0));
        due(15, "all fixed by solving", 1048575, x.solves(1, 0, 1, 0));
        due(16, "the last hidden page", 257 * 120 & 65535, x.read(1, 0, 19, 1));
        due(17, "the last hidden page is known by the seventh", 7, x.soon(1, 0, 19, 0));
        due(21, "one guards it", 1, x.guard(1, 0, 1, 19));
        due(26, "fewer leaflets than pages", 1, x.degree(0, 11, 11, 1));
    }

    private static void comings() {
        ThousandLeaflets x = told(2, "");
        x.page(0, 0, 0x1234);
        x.page(0, 1, 0x1234);
        due(8, "comes with the low byte", 0, x.comes(3, 0, 9999, 1));
        due(8, "comes with the high byte", 1, x.comes(3, 0, 0, 2));
        due(8, "comes whole", 2, x.comes(3, 0, 0, 3));
        due(12, "the low byte", 0x34, x.paper(3, 0, 2));
        due(12, "the high byte", 0x1200, x.paper(3, 1, 2));
        due(12, "both", 0x1234, x.paper(3, 2, 2));
        due(12, "bytes", 2, x.paper(3, 1, 3));
        due(8, "bytes 0", -1, x.comes(3, 0, 0, 0));
        due(8, "bytes 4", -1, x.comes(3, 0, 0, 4));
        due(8, "no such number", -1, x.comes(3, 0, 10000, 3));
        due(8, "no such number", -1, x.comes(3, 0, -1, 3));
        due(8, "no such quarter", -1, x.comes(4, 0, 0, 3));
        due(8, "no such quarter", -1, x.comes(-1, 0, 0, 3));
        due(8, "no such book", -1, x.comes(3, 1, 0, 3));
        for (int i = 3; i < 40; i++) {
            due(8, "place " + i, i, x.comes(3, 0, 0, 3));
        }
        due(8, "no room", -1, x.comes(3, 0, 0, 3));
        due(9, "no room", -1, x.slip(3, 0, 0, 1));
        due(10, "no room", -1, x.forged(3, 0, 0, 1, 1));
        due(11, "no room", -1, x.nameless(3, 0, 1));
        due(34, "count(3)", 40, x.count(3));
        due(34, "none was thrown out", 0, x.count(7));
    }

    private static void seals() {
        ThousandLeaflets x = told(3, "");
        due(9, "a slip without a seal", 0, x.slip(0, 0, 5, 0xffff));
        due(9, "its sum", x.leaflet(0, 5, 1) ^ 0xffff, x.paper(0, 0, 2));
        due(9, "its bytes", 3, x.paper(0, 0, 3));
        due(9, "error 0", -1, x.slip(0, 0, 5, 0));
        due(9, "error 65536", -1, x.slip(0, 0, 5, 65536));
        due(9, "no such book", -1, x.slip(0, 1, 5, 1));
        due(9, "no such quarter", -1, x.slip(4, 0, 5, 1));
        due(9, "no such number", -1, x.slip(0, 0, 10000, 1));
        due(10, "forged without a seal", 1, x.forged(0, 0, 7, 65535, 996));
        due(10, "its seal", 996, x.paper(0, 1, 4));
        due(10, "sum -1", -1, x.forged(0, 0, 7, -1, 0));
        due(10, "sum 65536", -1, x.forged(0, 0, 7, 65536, 0));
        due(10, "seal -1", -1, x.forged(0, 0, 7, 0, -1));
        due(10, "seal 997", -1, x.forged(0, 0, 7, 0, 997));
        due(10, "no such number", -1, x.forged(0, 0, 10000, 0, 0));
        due(10, "no such book", -1, x.forged(0, 1, 0, 0, 0));
        due(10, "no such quarter", -1, x.forged(-1, 0, 0, 0, 0));
        x.book(0, 3);
        x.page(0, 0, 500);
        x.page(0, 1, 500);
        x.page(0, 2, 500);
        draw(x, 0, "seal 7;");
        due(9, "a slip with a seal", -1, x.slip(0, 0, 5, 1));
        due(34, "is thrown out", 1, x.count(7));
        due(9, "a slip by a multiple of 997", 0, x.slip(0, 0, 5, 500 ^ 1497));
        due(9, "has its own seal", (6 * 7 + 31 * 500) % 997, x.paper(0, 0, 4));
        due(10, "forged well", 1, x.forged(0, 0, 9, 11, (10 * 7 + 31 * 11) % 997));
        due(10, "forged badly", -1, x.forged(0, 0, 9, 11, (10 * 7 + 31 * 11 + 1) % 997));
        due(34, "is thrown out", 2, x.count(7));
        due(8, "a torn one has the whole one's seal", 2, x.comes(0, 0, 5, 1));
        due(12, "a torn one has the whole one's seal", (6 * 7 + 31 * 500) % 997, x.paper(0, 2, 4));
        due(11, "a nameless one comes", 3, x.nameless(0, 5, 1));
        due(10, "a wrong call throws none out", -1, x.forged(0, 0, 9, 11, 997));
        due(34, "count(7)", 2, x.count(7));
        for (int i = 4; i < 40; i++) {
            x.comes(0, 0, 0, 3);
        }
        due(9, "at once, though there is no room", -1, x.slip(0, 0, 5, 1));
        due(34, "count(7)", 3, x.count(7));
        x.book(0, 2);
        due(34, "count(7) goes on", 3, x.count(7));
    }

    private static void namelessOnes() {
        ThousandLeaflets x = new ThousandLeaflets();
        due(11, "before a book is told", 0, x.nameless(1, 9999, 65535));
        due(12, "its book", -1, x.paper(1, 0, 0));
        due(12, "its number", 9999, x.paper(1, 0, 1));
        due(12, "its sum", 65535, x.paper(1, 0, 2));
        due(12, "its bytes", 3, x.paper(1, 0, 3));
        due(12, "its seal", 0, x.paper(1, 0, 4));
        due(12, "its unknown pages", -1, x.paper(1, 0, 5));
        due(11, "no such quarter", -1, x.nameless(4, 0, 0));
        due(11, "no such number", -1, x.nameless(1, 10000, 0));
        due(11, "no such number", -1, x.nameless(1, -1, 0));
        due(11, "no such sum", -1, x.nameless(1, 0, 65536));
        due(11, "no such sum", -1, x.nameless(1, 0, -1));
        for (int i = 1; i < 6; i++) {
            due(11, "alike ones come too", i, x.nameless(1, 9999, 65535));
        }
        due(11, "6 are there", -1, x.nameless(1, 1, 1));
        due(11, "another heap", 0, x.nameless(2, 1, 1));
        due(13, "away", true, x.away(1, 3));
        due(11, "5 are there", 5, x.nameless(1, 1, 1));
    }

    private static void papers() {
        ThousandLeaflets x = told(3, "odds 1 1; odds 2 1; odds 3 1;");
        x.comes(0, 0, number(x, 1), 1);
        x.comes(0, 0, number(x, 7), 3);
        x.comes(0, 0, number(x, 3), 2);
        due(12, "book", 0, x.paper(0, 1, 0));
        due(12, "number", number(x, 7), x.paper(0, 1, 1));
        due(12, "page 0 is not known in the high byte", 3, x.paper(0, 1, 5));
        due(12, "in the low byte alone all is known", 0, x.paper(0, 0, 5));
        due(12, "in the high byte alone none is known", 2, x.paper(0, 2, 5));
        x.comes(0, 0, number(x, 1), 2);
        due(12, "page 0 is known in both bytes, the others in the high one", 2, x.paper(0, 1, 5));
        due(12, "in the high byte alone", 0, x.paper(0, 2, 5));
        due(12, "no such place", 1, thrown(x, 0, 4, 0));
        due(12, "no such place", 1, thrown(x, 0, -1, 0));
        due(12, "no such quarter", 1, thrown(x, 4, 0, 0));
        due(12, "no such quarter", 1, thrown(x, -1, 0, 0));
        due(12, "no such what", 1, thrown(x, 0, 0, 6));
        due(12, "no such what", 1, thrown(x, 0, 0, -1));
        due(12, "such", 0, thrown(x, 0, 0, 0));
        due(13, "no such place", false, x.away(0, 4));
        due(13, "no such place", false, x.away(0, -1));
        due(13, "no such quarter", false, x.away(4, 0));
        due(13, "away", true, x.away(0, 0));
        due(13, "those behind come up", number(x, 7), x.paper(0, 0, 1));
        due(13, "and fewer are there", 3, x.count(0));
        due(13, "the last place is gone", 1, thrown(x, 0, 3, 0));
    }

    private static void peeling() {
        ThousandLeaflets x = told(4, "odds 1 1; odds 2 1; odds 3 1; sum 0 1;");
        due(14, "nothing is known at first", 0, x.peels(0, 0, 0, 0));
        due(14, "the hidden equation is left", 1, x.peels(0, 0, 0, 3));
        x.comes(0, 0, number(x, 0, 16, 0), 3);
        x.comes(0, 0, number(x, 1 | 4), 3);
        x.comes(0, 0, number(x, 4 | 8), 3);
        due(14, "the hidden page", 16, x.peels(0, 0, 0, 0));
        due(14, "left", 3, x.peels(0, 0, 0, 3));
        due(14, "work: hidden equation and paper, less one", 1, x.peels(0, 0, 0, 2));
        x.comes(0, 0, number(x, 2), 1);
        due(14, "all", 31, x.peels(0, 0, 0, 0));
        due(14, "the high byte has not", 16, x.peels(0, 0, 1, 0));
        due(14, "work", 3 + 1 + 2 + 2 + 1 - 5, x.peels(0, 0, 0, 2));
        due(14, "left", 0, x.peels(0, 0, 0, 3));
        due(14, "quarrels", 0, x.peels(0, 0, 0, 1));
        x.slip(0, 0, number(x, 0, 8, 1), 0x0003);
        due(14, "a quarrel in the low byte", 1, x.peels(0, 0, 0, 1));
        due(14, "none in the high byte", 0, x.peels(0, 0, 1, 1));
        due(14, "all in the high byte", 31, x.peels(0, 0, 1, 0));
        due(16, "page 3 by an earlier equation than the slip", 257 * 8, x.read(0, 0, 3, 0));
        due(16, "page 1 lacks its high byte no more", 257 * 2, x.read(0, 0, 1, 0));
        due(14, "no such what", -1, x.peels(0, 0, 0, 4));
        due(14, "no such what", -1, x.peels(0, 0, 0, -1));
        due(14, "no such byte", -1, x.peels(0, 0, 2, 0));
        due(14, "no such byte", -1, x.peels(0, 0, -1, 0));
        due(14, "no such book", -1, x.peels(0, 1, 0, 0));
        due(14, "no such quarter", -1, x.peels(4, 0, 0, 0));
        due(16, "no such page", -1, x.read(0, 0, 5, 0));
        due(16, "no such page", -1, x.read(0, 0, -1, 0));
        due(16, "no such how", -1, x.read(0, 0, 0, 2));
        due(16, "no such how", -1, x.read(0, 0, 0, -1));
        due(16, "no such quarter", -1, x.read(4, 0, 0, 0));
        due(16, "no such book", -1, x.read(0, 1, 0, 0));
        due(16, "a hidden page", 257 * 3, x.read(0, 0, 4, 0));
    }

    /** Of two papers that tell a page otherwise, the first equation of the heap gives it. */
    private static void order() {
        ThousandLeaflets x = told(3, "odds 1 1; odds 2 1;");
        x.forged(0, 0, number(x, 1), 0x0505, 0);
        x.forged(0, 0, number(x, 0, 1, 1), 0x0606, 0);
        due(16, "the first tells it", 0x0505, x.read(0, 0, 0, 0));
        due(14, "the other quarrels", 1, x.peels(0, 0, 0, 1));
        x.away(0, 0);
        x.comes(0, 0, number(x, 3), 3);
        x.forged(0, 0, number(x, 2), 0x0909, 0);
        due(16, "an earlier equation with one page left goes first", 0x0606 ^ 0x0303, x.read(0, 0, 1, 0));
        due(14, "the last one quarrels", 1, x.peels(0, 0, 1, 1));
        ThousandLeaflets y = told(3, "odds 1 1; odds 2 1;");
        y.forged(0, 0, number(y, 2), 0x0909, 0);
        y.comes(0, 0, number(y, 3), 3);
        y.forged(0, 0, number(y, 1), 0x0606, 0);
        due(16, "the other way round", 0x0909 ^ 0x0303, y.read(0, 0, 0, 0));
    }

    private static void solving() {
        ThousandLeaflets x = told(3, "odds 2 1;");
        due(15, "nothing fixed", 0, x.solves(0, 0, 0, 0));
        due(15, "none agrees", 1, x.solves(0, 0, 0, 1));
        due(15, "rank", 0, x.solves(0, 0, 0, 2));
        due(15, "missing", 3, x.solves(0, 0, 0, 3));
        x.comes(0, 0, number(x, 3), 3);
        x.comes(0, 0, number(x, 5), 3);
        x.comes(0, 0, number(x, 6), 3);
        due(15, "a ring of three fixes nothing", 0, x.solves(0, 0, 0, 0));
        due(15, "rank", 2, x.solves(0, 0, 0, 2));
        due(15, "missing", 1, x.solves(0, 0, 0, 3));
        due(16, "nothing is read", -1, x.read(0, 0, 0, 1));
        x.slip(0, 0, number(x, 0, 3, 1), 0x0100);
        due(15, "the high byte does not agree", 0, x.solves(0, 0, 1, 1));
        due(15, "the low one does", 1, x.solves(0, 0, 0, 1));
        due(15, "rank all the same", 2, x.solves(0, 0, 1, 2));
        ThousandLeaflets y = told(4, "odds 3 1; sum 0 1;");
        y.comes(0, 0, number(y, 1 | 2 | 4), 3);
        y.comes(0, 0, number(y, 16 | 4 | 8), 3);
        due(15, "page 3 is fixed by solving", 8, y.solves(0, 0, 0, 0));
        due(15, "rank with the hidden equation", 3, y.solves(0, 0, 0, 2));
        due(15, "missing of all", 2, y.solves(0, 0, 0, 3));
        due(16, "by solving", 257 * 8, y.read(0, 0, 3, 1));
        due(16, "not by peeling", -1, y.read(0, 0, 3, 0));
        due(15, "no such what", -1, y.solves(0, 0, 0, 4));
        due(15, "no such what", -1, y.solves(0, 0, 0, -1));
        due(15, "no such byte", -1, y.solves(0, 0, 2, 0));
        due(15, "no such book", -1, y.solves(0, 1, 0, 0));
        due(15, "no such quarter", -1, y.solves(-1, 0, 0, 0));
    }

    private static void soonest() {
        ThousandLeaflets x = told(3, "odds 1 1; odds 2 1; sum 0 1;");
        x.book(1, 1);
        x.comes(0, 1, 0, 3);
        x.comes(0, 0, number(x, 3), 3);
        x.comes(0, 0, number(x, 2), 1);
        x.comes(0, 0, number(x, 2), 2);
        x.slip(0, 0, number(x, 1), 1);
        due(17, "the hidden page by solving", 2, x.soon(0, 0, 3, 1));
        due(17, "the hidden page by peeling", 4, x.soon(0, 0, 3, 0));
        due(17, "page 0 by both bytes", 4, x.soon(0, 0, 0, 0));
        due(17, "page 0 by both bytes", 4, x.soon(0, 0, 0, 1));
        due(16, "page 0 is read no more by solving", -1, x.read(0, 0, 0, 1));
        due(17, "page 2 never", -1, x.soon(0, 0, 2, 0));
        due(17, "the other book", 1, x.soon(0, 1, 0, 1));
        due(17, "no such page", -1, x.soon(0, 0, 4, 0));
        due(17, "no such how", -1, x.soon(0, 0, 0, 2));
        due(17, "no such quarter", -1, x.soon(4, 0, 0, 0));
        due(17, "no such book", -1, x.soon(0, 2, 0, 0));
    }

    private static void slips() {
        ThousandLeaflets x = told(3, "odds 1 1; odds 2 1;");
        x.nameless(0, 0, 0);
        x.comes(0, 0, number(x, 1), 3);
        due(18, "they agree", -1, x.slipped(0, 0, 0, 0));
        due(19, "they agree", -1, x.right(0, 0, 0, 0));
        x.comes(0, 0, number(x, 3), 3);
        x.slip(0, 0, number(x, 2), 0x10);
        x.comes(0, 0, number(x, 4), 3);
        due(18, "each of three may be it", 3, x.slipped(0, 0, 0, 0));
        due(18, "the place of the first", 1, x.slipped(0, 0, 0, 1));
        due(18, "not sure", 0, x.slipped(0, 0, 0, 2));
        due(18, "the high byte agrees", -1, x.slipped(0, 0, 1, 2));
        due(19, "page 2 is put right all the same", 4, x.right(0, 0, 0, 2));
        due(19, "page 0 is 1 or 17", -1, x.right(0, 0, 0, 0));
        x.comes(0, 0, number(x, 0, 1, 1), 1);
        x.comes(0, 0, number(x, 0, 3, 1), 1);
        due(18, "it is sure", 1, x.slipped(0, 0, 0, 2));
        due(18, "one", 1, x.slipped(0, 0, 0, 0));
        due(18, "the slipped one", 3, x.slipped(0, 0, 0, 1));
        due(19, "page 0 is put right", 1, x.right(0, 0, 0, 0));
        due(19, "page 1 is put right", 2, x.right(0, 0, 0, 1));
        x.slip(0, 0, number(x, 0, 4, 1), 1);
        due(18, "none may be", 0, x.slipped(0, 0, 0, 0));
        due(18, "none may be", -1, x.slipped(0, 0, 0, 1));
        due(18, "none may be", 0, x.slipped(0, 0, 0, 2));
        due(19, "none may be", -1, x.right(0, 0, 0, 0));
        due(18, "no such what", -1, x.slipped(0, 0, 0, 3));
        due(18, "no such what", -1, x.slipped(0, 0, 0, -1));
        due(18, "no such byte", -1, x.slipped(0, 0, 2, 0));
        due(18, "no such book", -1, x.slipped(0, 1, 0, 0));
        due(18, "no such quarter", -1, x.slipped(4, 0, 0, 0));
        due(19, "no such page", -1, x.right(0, 0, 0, 3));
        due(19, "no such byte", -1, x.right(0, 0, 2, 0));
        due(19, "no such quarter", -1, x.right(4, 0, 0, 0));
        due(19, "no such book", -1, x.right(0, 1, 0, 0));
        // Two papers alike in pages: without one of them the page is told otherwise, or not at all.
        ThousandLeaflets y = told(2, "odds 1 1;");
        y.comes(0, 0, number(y, 1), 3);
        y.slip(0, 0, number(y, 0, 1, 1), 1);
        due(19, "told two ways", -1, y.right(0, 0, 0, 0));
        due(19, "not fixed at all", -1, y.right(0, 0, 0, 1));
    }

    private static void doublesAndGuards() {
        ThousandLeaflets x = told(3, "odds 1 1; odds 2 1; odds 3 1; sum 0 1;");
        due(20, "none", 0, x.doubles(0, 0, 0));
        x.comes(0, 0, number(x, 1), 3);
        due(21, "one paper guards", 1, x.guard(0, 0, 0, 0));
        due(21, "the hidden page is not fixed", -1, x.guard(0, 0, 0, 3));
        due(20, "none", 0, x.doubles(0, 0, 0));
        x.comes(0, 0, number(x, 3), 1);
        x.comes(0, 0, number(x, 2), 3);
        due(20, "a ring of three: each", 3, x.doubles(0, 0, 0));
        due(20, "the torn one is not there", 0, x.doubles(0, 0, 1));
        due(21, "two", 2, x.guard(0, 0, 0, 0));
        due(21, "one in the high byte", 1, x.guard(0, 0, 1, 0));
        due(21, "the hidden page", 2, x.guard(0, 0, 0, 3));
        x.comes(0, 0, number(x, 0, 1, 1), 3);
        due(21, "three", 3, x.guard(0, 0, 0, 0));
        due(21, "two still", 2, x.guard(0, 0, 0, 1));
        x.comes(0, 0, number(x, 0, 1, 2), 3);
        due(21, "more than three", -1, x.guard(0, 0, 0, 0));
        due(21, "page 2 is not fixed", -1, x.guard(0, 0, 0, 2));
        due(20, "five", 5, x.doubles(0, 0, 0));
        x.slip(0, 0, number(x, 0, 2, 1), 1);
        due(21, "they do not agree", -1, x.guard(0, 0, 0, 1));
        due(20, "rank does not ask", 6, x.doubles(0, 0, 0));
        due(20, "no such byte", -1, x.doubles(0, 0, 2));
        due(20, "no such book", -1, x.doubles(0, 1, 0));
        due(20, "no such quarter", -1, x.doubles(4, 0, 0));
        due(21, "no such byte", -1, x.guard(0, 0, 2, 0));
        due(21, "no such page", -1, x.guard(0, 0, 0, 4));
        due(21, "no such page", -1, x.guard(0, 0, 0, -1));
        due(21, "no such book", -1, x.guard(0, 1, 0, 0));
        due(21, "no such quarter", -1, x.guard(4, 0, 0, 0));
        // A full heap: a page of which all but three papers tell nothing.
        ThousandLeaflets y = told(16, "odds 1 1;");
        for (int i = 0; i < 37; i++) {
            y.comes(1, 0, number(y, 0, 2, i), 3);
        }
        for (int i = 0; i < 3; i++) {
            y.comes(1, 0, number(y, 0, 1 << 15, i), 3);
        }
        due(21, "three at the end of a full heap", 3, y.guard(1, 0, 1, 15));
        due(21, "37 are more than three", -1, y.guard(1, 0, 1, 1));
        due(20, "all", 40, y.doubles(1, 0, 1));
    }

    private static void toCome() {
        ThousandLeaflets x = told(3, "");
        // Without odds the numbers 0 to 10 have the pages 2, 0, ?, 0, 1, 2, ..
        due(22, "three", 3, x.tocome(0, 0, 0));
        int least = 0;
        for (int page = 0; page < 3; page++) {
            for (int i = 0; i <= 10; i++) {
                if (x.leaflet(0, i, 0) == 1 << page) {
                    least |= 1 << i;
                    break;
                }
            }
        }
        due(22, "the first of each page", least, x.tocome(0, 0, 1));
        x.comes(0, 0, number(x, 0, 4, 3), 1);
        due(22, "three still: the high byte lacks", 3, x.tocome(0, 0, 0));
        x.comes(0, 0, number(x, 0, 4, 3), 2);
        due(22, "two", 2, x.tocome(0, 0, 0));
        due(22, "two", least & ~(1 << number(x, 4)), x.tocome(0, 0, 1));
        x.slip(0, 0, number(x, 1), 1);
        x.comes(0, 0, number(x, 2), 3);
        due(22, "a false one that agrees fixes too", 0, x.tocome(0, 0, 0));
        due(22, "none", 0, x.tocome(0, 0, 1));
        x.comes(0, 0, number(x, 0, 1, 1), 3);
        due(22, "a byte does not agree", -1, x.tocome(0, 0, 0));
        due(22, "a byte does not agree", -1, x.tocome(0, 0, 1));
        due(22, "no such what", -1, x.tocome(1, 0, 2));
        due(22, "no such what", -1, x.tocome(1, 0, -1));
        due(22, "no such quarter", -1, x.tocome(4, 0, 0));
        due(22, "no such book", -1, x.tocome(0, 1, 0));
        x.book(1, 16);
        due(22, "none do", -1, x.tocome(0, 1, 0));
        // A false paper that agrees with what came, and with no right leaflet of the page that it lacks.
        ThousandLeaflets y = told(2, "odds 1 1; odds 2 1;");
        y.slip(0, 0, number(y, 3), 1);
        int set = y.tocome(0, 0, 1);
        due(22, "one page more, right or wrong", 1, y.tocome(0, 0, 0));
        due(22, "of one page", 1, Integer.bitCount(set) == 1 ? y.leaflet(0, Integer.bitCount(set - 1), 3) : 0);
        y.slip(0, 0, number(y, 0, 1, 40), 2);
        due(22, "all is fixed", 0, y.tocome(0, 0, 0));
        // One byte tells page 1 falsely, the other not at all: a right leaflet of page 1 alone does not agree.
        for (int octet = 0; octet < 2; octet++) {
            ThousandLeaflets z = told(2, "odds 1 3; odds 2 3;");
            z.slip(0, 0, number(z, 0, 1, 1), 1 << 8 * octet);
            z.comes(0, 0, number(z, 3), 1 + octet);
            due(22, "one", 1, z.tocome(0, 0, 0));
            due(22, "a leaflet of page 1 is ahead of it", true, number(z, 2) < number(z, 3));
            due(22, "the one with both pages", 1 << number(z, 3), z.tocome(0, 0, 1));
            z = told(2, "odds 1 1; odds 2 1;");
            z.slip(0, 0, number(z, 0, 1, 1), 1 << 8 * octet);
            z.comes(0, 0, number(z, 3), 1 + octet);
            due(22, "the one with both pages is no more of 0 to 10", -1, z.tocome(0, 0, 0));
        }
    }

    private static void chances() {
        ThousandLeaflets x = told(3, "");
        // 0 to 4 have the pages 2, 0, a, 0, 1, where a is 0 or 2: one of each of three kinds is due.
        due(23, "k 0", 0, x.chances(0, 5, 0, 0));
        due(23, "k 2", 0, x.chances(0, 5, 2, 0));
        due(23, "k 3", 4, x.chances(0, 5, 3, 0));
        due(23, "k 4", 4, x.chances(0, 5, 4, 1));
        due(23, "k 5", 1, x.chances(0, 5, 5, 1));
        due(23, "papers do not count", 4, x.comes(0, 0, 0, 3) + x.chances(0, 5, 3, 0));
        due(23, "m 0", -1, x.chances(0, 0, 0, 0));
        due(23, "m 12", -1, x.chances(0, 12, 0, 0));
        due(23, "k 6 of 5", -1, x.chances(0, 5, 6, 0));
        due(23, "k -1", -1, x.chances(0, 5, -1, 0));
        due(23, "how 2", -1, x.chances(0, 5, 3, 2));
        due(23, "no such book", -1, x.chances(1, 5, 3, 0));
        due(24, "enough", 5, x.enough(0, 5, 0, false));
        due(24, "half", 4, x.enough(0, 5, 0, true));
        due(24, "none", -1, x.enough(0, 4, 0, true));
        due(24, "m 12", -1, x.enough(0, 12, 0, true));
        due(24, "m 0", -1, x.enough(0, 0, 0, true));
        due(24, "how -1", -1, x.enough(0, 5, -1, true));
        due(24, "no such book", -1, x.enough(2, 5, 0, true));
        due(25, "above", 19, x.average(0, 5, 0, 0));
        due(25, "below", 5, x.average(0, 5, 1, 1));
        due(25, "all m do not", -1, x.average(0, 4, 0, 0));
        due(25, "what 2", -1, x.average(0, 5, 0, 2));
        due(25, "what -1", -1, x.average(0, 5, 0, -1));
        due(25, "m 12", -1, x.average(0, 12, 0, 0));
        due(25, "how 2", -1, x.average(0, 5, 2, 0));
        due(25, "no such book", -1, x.average(1, 5, 0, 0));
        ThousandLeaflets y = told(1, "");
        due(24, "one page: one leaflet", 1, y.enough(0, 11, 0, false));
        due(25, "one page: one leaflet", 1, y.average(0, 11, 1, 0));
        due(23, "all eleven", 11, y.chances(0, 11, 1, 0));
        due(23, "462 of eleven", 462, y.chances(0, 11, 5, 1));
        // Leaflets of one page and of all: two ways of reading that differ.
        ThousandLeaflets z = told(3, "odds 2 1; sum 0 1;");
        due(23, "peeling finds nothing without a leaflet of one page", 0, z.chances(0, 11, 11, 0));
        due(23, "solving does", 1, z.chances(0, 11, 11, 1));
        due(24, "by peeling none", -1, z.enough(0, 11, 0, true));
        due(25, "by peeling none", -1, z.average(0, 11, 0, 0));
        due(25, "by solving some", true, z.average(0, 11, 1, 0) > 3 * z.average(0, 11, 1, 1));
    }

    private static void degrees() {
        ThousandLeaflets x = told(3, "odds 3 1;");
        due(26, "k 0: of equal ones the least", 1, x.degree(0, 5, 0, 0));
        due(26, "m 0", -1, x.degree(0, 0, 0, 0));
        due(26, "m 12", -1, x.degree(0, 12, 0, 0));
        due(26, "k 6 of 5", -1, x.degree(0, 5, 6, 0));
        due(26, "k -1", -1, x.degree(0, 5, -1, 0));
        due(26, "how 2", -1, x.degree(0, 5, 3, 2));
        due(26, "no such book", -1, x.degree(1, 5, 3, 0));
        for (int how = 0; how < 2; how++) {
            for (int k = 3; k <= 9; k++) {
                int best = 0;
                int most = -1;
                for (int d = 1; d <= 3; d++) {
                    int sets = told(3, "odds " + d + " 1;").chances(0, 9, k, how);
                    if (sets > most) {
                        most = sets;
                        best = d;
                    }
                }
                due(26, "k " + k + ", how " + how, best, x.degree(0, 9, k, how));
            }
        }
        due(26, "the draw stays", 3, x.leaflet(0, 0, 3));
    }

    private static void apart() {
        ThousandLeaflets x = told(1, "");
        x.nameless(2, 0, 257);
        due(27, "a book is not told", -1, x.apart(2, 0));
        ThousandLeaflets y = new ThousandLeaflets();
        y.book(1, 1);
        y.nameless(2, 0, 257);
        due(27, "the other book is not told", -1, y.apart(2, 0));
        x.book(1, 1);
        x.page(1, 0, 9);
        x.nameless(2, 0, 257);
        x.nameless(2, 1, 9);
        due(27, "either", 2, x.apart(2, 0));
        due(27, "either", 2, x.apart(2, 1));
        x.comes(2, 1, 5, 1);
        due(27, "the low byte tells", 0, x.apart(2, 0));
        due(27, "the other one has no more room beside it", 1, x.apart(2, 1));
        due(27, "not nameless", -1, x.apart(2, 2));
        due(27, "no such place", -1, x.apart(2, 3));
        due(27, "no such place", -1, x.apart(2, -1));
        due(27, "no such quarter", -1, x.apart(4, 0));
        x.nameless(2, 7, 300);
        due(27, "no way", -1, x.apart(2, 0));
        x.away(2, 3);
        x.slip(2, 1, 5, 256);
        due(27, "no way: the high byte is another", -1, x.apart(2, 1));
        x.away(2, 3);
        due(27, "a way again", 1, x.apart(2, 1));
        x.slip(2, 1, 5, 1);
        due(27, "papers that quarrel", -1, x.apart(2, 1));
    }

    private static void scattering() {
        ThousandLeaflets x = told(3, "");
        due(28, "burn -1", false, x.quarter(0, -1, 1));
        due(28, "burn 101", false, x.quarter(0, 101, 1));
        due(28, "houses -1", false, x.quarter(0, 0, -1));
        due(28, "houses 1000", false, x.quarter(0, 0, 1000));
        due(28, "quarter 4", false, x.quarter(4, 0, 1));
        due(28, "quarter -1", false, x.quarter(-1, 0, 1));
        due(28, "all burns", true, x.quarter(0, 100, 999));
        due(28, "half burns", true, x.quarter(1, 50, 0));
        due(34, "count(8)", 1001, x.count(8));
        int falls = 0;
        for (int i = 9900; i <= 9999; i++) {
            falls += (i * 37 + 101 + 13) * 7 % 100 >= 50 ? 1 : 0;
        }
        due(29, "40 at most in each", Math.min(falls, 40) + 40 + 40, x.scatter(0, 9900, 9999));
        due(34, "count(0)", 0, x.count(0));
        due(12, "the first in quarter 2", 9900, x.paper(2, 0, 1));
        due(12, "by numbers", 9901, x.paper(2, 1, 1));
        due(29, "they are there", 0, x.scatter(0, 9900, 9930));
        due(29, "101", -1, x.scatter(0, 0, 100));
        due(29, "from above to", -1, x.scatter(0, 1, 0));
        due(29, "to 10000", -1, x.scatter(0, 9990, 10000));
        due(29, "from -1", -1, x.scatter(0, -1, 3));
        due(29, "far apart", -1, x.scatter(0, Integer.MIN_VALUE, Integer.MAX_VALUE));
        due(29, "no such book", -1, x.scatter(1, 0, 0));
        ThousandLeaflets y = told(3, "");
        y.comes(0, 0, 0, 1);
        y.slip(1, 0, 0, 1);
        y.comes(2, 0, 0, 3);
        due(29, "torn or slipped is not alike", 3, y.scatter(0, 0, 0));
        due(12, "both bytes", 3, y.paper(0, 1, 3));
        y.book(1, 3);
        y.quarter(3, 40, 1);
        due(29, "burn below", 4, y.scatter(1, 0, 0) + ((11 + 303 + 13) * 7 % 100 < 40 ? 1 : 0));
        due(34, "count(3)", (11 + 303 + 13) * 7 % 100 < 40 ? 1 : 2, y.count(3));
    }

    private static void needsAndTown() {
        ThousandLeaflets x = told(3, "");
        due(30, "needs", 5, x.needs(0, 0));
        x.comes(0, 0, 0, 3);
        due(30, "papers do not count", 5, x.needs(0, 0));
        due(30, "no such quarter", -1, x.needs(4, 0));
        due(30, "no such book", -1, x.needs(0, 1));
        due(31, "share 0", 0, x.town(0, 0));
        due(31, "share 1", 5, x.town(0, 1));
        due(31, "share 100", 5, x.town(0, 100));
        due(31, "share 101", -1, x.town(0, 101));
        due(31, "share -1", -1, x.town(0, -1));
        due(31, "no such book", -1, x.town(1, 50));
        x.quarter(3, 100, 1);
        due(30, "none", -1, x.needs(3, 0));
        due(31, "three of four", 5, x.town(0, 75));
        due(31, "more is none", -1, x.town(0, 76));
        for (int q = 0; q < 4; q++) {
            x.quarter(q, 100, 0);
        }
        due(31, "no houses at all", 0, x.town(0, 100));
        // The very last leaflet of 60.
        for (int burn = 0; burn <= 100; burn++) {
            x.quarter(2, burn, 1);
            int pages = 0;
            int least = -1;
            for (int i = 0; i < 60 && least < 0; i++) {
                pages |= (i * 37 + 202 + 13) * 7 % 100 >= burn ? x.leaflet(0, i, 0) : 0;
                least = pages == 7 ? i + 1 : -1;
            }
            due(30, "burn " + burn, least, x.needs(2, 0));
            due(31, "burn " + burn, least, x.town(0, 100));
        }
        ThousandLeaflets y = told(3, "odds 3 1;");
        due(30, "all leaflets are one", -1, y.needs(0, 0));
    }

    private static void swaps() {
        ThousandLeaflets x = told(3, "");
        x.comes(0, 0, 0, 3);
        x.comes(0, 0, 0, 3);
        x.comes(0, 0, 1, 3);
        x.slip(0, 0, 1, 1);
        x.comes(0, 0, 1, 1);
        x.nameless(0, 1, 5);
        x.comes(1, 0, 1, 3);
        due(32, "k 0", 0, x.swap(0, 1, 0));
        due(32, "two alike come once", 4, x.swap(0, 1, 40));
        due(12, "in order", 0, x.paper(1, 1, 1));
        due(12, "the slip", x.paper(0, 3, 2), x.paper(1, 2, 2));
        due(12, "the torn one", 1, x.paper(1, 3, 3));
        due(12, "the nameless one", -1, x.paper(1, 4, 0));
        due(34, "the giver keeps them", 6, x.count(0));
        due(32, "the first two that it lacks", 2, x.swap(0, 2, 2));
        due(12, "the second", 1, x.paper(2, 1, 1));
        due(32, "the next one", 1, x.swap(0, 2, 1));
        due(12, "the slip", x.paper(0, 3, 2), x.paper(2, 2, 2));
        due(32, "k 41", -1, x.swap(0, 1, 41));
        due(32, "k -1", -1, x.swap(0, 1, -1));
        due(32, "the same", -1, x.swap(0, 0, 1));
        due(32, "no such quarter", -1, x.swap(0, 4, 1));
        due(32, "no such quarter", -1, x.swap(-1, 0, 1));
        for (int i = 0; i < 6; i++) {
            x.nameless(3, i, 9);
        }
        due(32, "six nameless are there", 4, x.swap(0, 3, 40));
        for (int i = x.count(3); i < 39; i++) {
            x.comes(3, 0, 7, 3);
        }
        x.comes(0, 0, 8, 3);
        x.comes(0, 0, 9, 3);
        due(32, "room for one", 1, x.swap(0, 3, 40));
        due(32, "no room", 0, x.swap(0, 3, 40));
    }

    private static void marks() {
        ThousandLeaflets x = told(3, "");
        due(33, "nothing is on it", false, x.mark(3, true));
        x.comes(0, 0, 0, 3);
        x.nameless(2, 1, 5);
        due(33, "mark", true, x.mark(3, false));
        x.comes(0, 0, 1, 3);
        x.away(2, 0);
        due(33, "another mark", true, x.mark(0, false));
        due(33, "back", true, x.mark(3, true));
        due(34, "count(0)", 1, x.count(0));
        due(34, "count(2)", 1, x.count(2));
        due(12, "the nameless one", 5, x.paper(2, 0, 2));
        due(33, "forth", true, x.mark(0, true));
        due(34, "count(0)", 2, x.count(0));
        due(34, "count(2)", 0, x.count(2));
        due(33, "back once more", true, x.mark(3, true));
        due(34, "count(0)", 1, x.count(0));
        x.away(0, 0);
        due(33, "what is on it stays", true, x.mark(3, true));
        due(34, "count(0)", 1, x.count(0));
        due(33, "no such mark", false, x.mark(4, false));
        due(33, "no such mark", false, x.mark(-1, true));
        due(33, "over it", true, x.mark(3, false));
        due(2, "no book", false, x.book(0, 17));
        due(33, "a mark stays by no book", true, x.mark(3, true));
        due(2, "book 1", true, x.book(1, 2));
        due(33, "all are forgotten", false, x.mark(3, true) || x.mark(0, true));
    }
}
