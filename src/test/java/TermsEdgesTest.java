/** Each sentence of 'Terms' and of the parts 2 to 5 that names a bound or another edge, with a test of its own. */
public final class TermsEdgesTest {
    public static void main(String[] args) {
        bookBounds();
        bytesOfPages();
        sumsOfPages();
        tapeBounds();
        tokens();
        anyNumberOfStatements();
        oddsBounds();
        firstBounds();
        sumBounds();
        sealBounds();
        placesOfFaults();
        misplaced();
        toldAgain();
        notAsTold();
        oneTooMany();
        drawFromThenOn();
        hiddenPages();
        drawsWrapAround();
        howMany();
        which();
        sealOfLeaflet();

        heapBounds();
        bytesOfPapers();
        thrownOut();
        neverThrownOut();

        equationsInOrder();
        peeling();
        peelingStops();
        quarrels();
        work();
        left();
        agree();
        fixed();
        rank();
        missing();
        readBothBytes();
        soonest();
        slipped();
        putRight();
        doubles();
        guards();
        toCome();
        toComeEleven();

        chances();
        enough();
        half();
        average();
        bestDegree();
        apart();
        apartQuarrels();
        apartNeedsBoth();

        falls();
        needsUpToSixty();
        houses();
        town();
        townUpToSixty();
        swaps();
        marks();
        marksForgotten();
        Kit.end();
    }

    private static int fault(int n, String text) {
        ThousandLeaflets x = new ThousandLeaflets();
        x.book(0, n);
        return Kit.draw(x, 0, text);
    }

    /** Kind 0 is none. */
    private static void fault(int kind, int place, String text) {
        Kit.due(text, kind == 0 ? 0 : kind + 16 * place, fault(4, text));
    }

    // ==== 1.

    private static void bookBounds() {
        Kit.says("BOOKS 0 and 1, when told, have n PAGES (1 to 16), each a number 0 to 65535 (0 at first)");
        ThousandLeaflets x = new ThousandLeaflets();
        Kit.due("book(0, 0)", false, x.book(0, 0));
        Kit.due("book(0, -1)", false, x.book(0, -1));
        Kit.due("book(0, 17)", false, x.book(0, 17));
        Kit.due("book(-1, 1)", false, x.book(-1, 1));
        Kit.due("book(2, 1)", false, x.book(2, 1));
        for (int far : Kit.FAR) {
            Kit.due("book(0, " + far + ")", false, x.book(0, far));
            Kit.due("book(" + far + ", 1)", false, x.book(far, 1));
        }
        Kit.due("none is told by them", 0, x.count(4) + x.count(5));
        Kit.due("book(0, 1)", true, x.book(0, 1));
        Kit.due("book(1, 16)", true, x.book(1, 16));
        Kit.due("count(4)", 1, x.count(4));
        Kit.due("count(5)", 16, x.count(5));
        Kit.due("0 at first", 0, x.told(0, 0));
        Kit.due("0 at first", 0, x.told(1, 15));
        Kit.due("page(0, 1, 0)", false, x.page(0, 1, 0));
        Kit.due("page(1, 16, 0)", false, x.page(1, 16, 0));
        Kit.due("page(1, 15, 65535)", true, x.page(1, 15, 65535));
        Kit.due("page(1, 15, 65536)", false, x.page(1, 15, 65536));
        Kit.due("page(1, 15, -1)", false, x.page(1, 15, -1));
        Kit.due("told(1, 15)", 65535, x.told(1, 15));
        Kit.due("page(1, 15, 0)", true, x.page(1, 15, 0));
        Kit.due("told(1, 15)", 0, x.told(1, 15));
    }

    private static void bytesOfPages() {
        Kit.says("two BYTES, 0 the low one, 1 the high one");
        ThousandLeaflets x = new ThousandLeaflets();
        x.book(0, 1);
        x.page(0, 0, 0xfe01);
        x.slip(0, 0, 0, 0xff00);
        x.comes(0, 0, 1, 3);
        Kit.due("the low byte agrees", 1, x.solves(0, 0, 0, 1));
        Kit.due("the high byte does not", 0, x.solves(0, 0, 1, 1));
        Kit.due("the high byte by peeling is the first one's", 0x0101, x.read(0, 0, 0, 0));
        Kit.due("byte 2", -1, x.solves(0, 0, 2, 1));
        Kit.due("byte -1", -1, x.solves(0, 0, -1, 1));
    }

    private static void sumsOfPages() {
        Kit.says("The SUM of PAGES is their either-or, bit by bit.");
        ThousandLeaflets x = Kit.told(3, "odds 3 1; sum 0 1; sum 0 1 2;");
        x.page(0, 0, 65535);
        x.page(0, 1, 65535);
        x.page(0, 2, 1);
        Kit.due("65535 and 65535", 0, x.told(0, 3));
        Kit.due("65535, 65535 and 1", 1, x.told(0, 4));
    }

    private static void tapeBounds() {
        Kit.says("The TAPE has at most 1,000 signs, 10 and 32 .. 126; what reads it takes it: it is empty then.");
        ThousandLeaflets x = new ThousandLeaflets();
        x.book(0, 2);
        int there = 0;
        for (int sign = 0; sign < 256; sign++) {
            there += sign == 10 || sign >= 32 && sign <= 126 ? 1 : 0;
            Kit.due("the sign " + sign, there, x.feed(0, (long) sign << 56, 0));
        }
        x.draw(0);
        Kit.due("it is empty by a fault", 0, x.count(6));
        StringBuilder text = new StringBuilder("odds 2 1;");
        while (text.length() < 999) {
            text.append(' ');
        }
        Kit.due("999 signs", 999, Kit.feed(x, text.toString()));
        Kit.due("1,000 signs, the others are left out", 1000, x.feed(0x3B3B3B3B3B3B3B3BL, -1L, 0x3BL));
        Kit.due("one more", 1000, x.feed(0x3B, 0, 0));
        Kit.due("the last sign is the first semicolon", 1 + 16 * 999, x.draw(0));
        Kit.due("it is empty", 0, x.count(6));
        Kit.due("it starts anew", 1, x.feed(0x20, 0, 0));
        Kit.due("a draw without a fault", 0, x.draw(0));
        Kit.due("it is empty", 0, x.count(6));
        text.append(' ');
        Kit.due("a text of 1,000 signs", 1000, Kit.feed(x, text.toString()));
        Kit.due("is read", 0, x.draw(0));
        Kit.due("two pages", 2, x.leaflet(0, 0, 3));
        Kit.feed(x, "odds");
        Kit.due("no such book", -1, x.draw(1));
        Kit.due("it is empty", 0, x.count(6));
    }

    private static void tokens() {
        Kit.says("TOKENS, each as long as can be, blanks (10, 32) between where one likes");
        fault(0, 0, "odds1 2;odds2 3;sum0 1;seal1;");
        fault(0, 0, "\n\nodds\n1\n2\n;\n \nodds \n 2 \n 3 \n ; \n");
        fault(0, 0, " ");
        fault(0, 0, "\n");
        fault(1, 2, "  od ds 1 1;");
        fault(1, 9, "odds 1 2 3;");
        fault(1, 7, "odds 1 ; 3;");
        fault(0, 0, "odds 0001 0999;");
        Kit.says("WORDS (letters a .. z, 8 at most), NUMBERS (1 to 4 digits; a letter may stand right behind), the semicolon.");
        fault(1, 1, " abcdefgh 1;");
        fault(1, 0, "`dds 1 1;");
        fault(1, 0, "{dds 1 1;");
        fault(1, 5, "odds /1 1;");
        fault(1, 5, "odds :1 1;");
        fault(1, 6, "seal 5x;");
        fault(1, 6, "seal 5seal;");
        fault(4, 5, "seal 9999x;");
        fault(4, 5, "seal 0000;");
        Kit.says("All else (a longer WORD or NUMBER, too, at its first sign) is none.");
        fault(1, 1, " abcdefghi 1;");
        fault(1, 5, "seal 10000;");
        fault(1, 5, "seal 00001;");
        fault(1, 5, "seal 99999999999999999999;");
        fault(1, 0, "oddsoddsodds 1 1;");
        fault(1, 0, "ODDS 1 1;");
        fault(1, 5, "odds -1 1;");
        fault(1, 6, "odds 1.5 1;");
        fault(1, 8, "odds 1 1,");
    }

    private static void anyNumberOfStatements() {
        Kit.says("DRAW: any number of   odds D N ;   first C N ;   sum P .. ;   seal N ;");
        fault(0, 0, "");
        StringBuilder text = new StringBuilder("seal 996; sum 0 1 2 3; first 16 9;");
        for (int d = 20; d >= 1; d--) {
            text.append("odds ").append(d).append(" 999; ");
        }
        text.append("sum 3 2;sum 2 1;sum 1 0;");
        fault(0, 0, text.toString());
        fault(1, 0, "; odds 1 1;");
        fault(1, 9, "odds 1 1;; odds 2 1;");
        fault(1, 11, "odds 1 1;  2;");
    }

    private static void oddsBounds() {
        Kit.says("odds: D 1 to 20, each once, N 0 to 999.");
        fault(4, 5, "odds 0 1;");
        fault(0, 0, "odds 1 1;");
        fault(0, 0, "odds 20 1;");
        fault(4, 5, "odds 21 1;");
        fault(0, 0, "odds 3 0;");
        fault(0, 0, "odds 3 999;");
        fault(4, 7, "odds 3 1000;");
        fault(3, 14, "odds 3 5;odds 3 5;");
        fault(3, 15, "odds 20 0;odds 20 5;");
        fault(0, 0, "odds 3 5;odds 4 5;");
    }

    private static void firstBounds() {
        Kit.says("first: once, C 1 to 16, N 2 to 9.");
        fault(4, 6, "first 0 2;");
        fault(0, 0, "first 1 2;");
        fault(0, 0, "first 16 9;");
        fault(4, 6, "first 17 9;");
        fault(4, 8, "first 4 1;");
        fault(4, 8, "first 4 10;");
        fault(4, 8, "first 4 0;");
        fault(3, 10, "first 4 2;first 5 2;");
    }

    private static void sumBounds() {
        Kit.says("sum: two PAGES or more, each once in it; 4 of these at most.");
        fault(1, 4, "sum ;");
        fault(1, 5, "sum 0;");
        fault(0, 0, "sum 0 1;");
        fault(0, 0, "sum 3 2 1 0;");
        fault(3, 12, "sum 3 2 1 0 3;");
        fault(3, 6, "sum 0 0;");
        fault(0, 0, "sum 0 1;sum 0 1;sum 0 1;sum 0 1;");
        fault(5, 32, "sum 0 1;sum 0 1;sum 0 1;sum 0 1;sum 0 1;");
        Kit.due("a book of one page", 4 + 16 * 6, fault(1, "sum 0 1;"));
        Kit.due("a book of one page", 1 + 16 * 5, fault(1, "sum 0;"));
        Kit.due("a book of two pages", 0, fault(2, "sum 1 0;"));
        String all = "sum 0 1 2 3 4 5 6 7 8 9 10 11 12 13 14 15";
        Kit.due("all sixteen", 0, fault(16, all + ";"));
        Kit.due("page 16 of sixteen", 4 + 16 * (all.length() + 1), fault(16, all + " 16;"));
        Kit.due("page 15 again", 3 + 16 * (all.length() + 1), fault(16, all + " 15;"));
        Kit.due("no end", 1 + 16 * all.length(), fault(16, all));
        Kit.due("page 15 of fifteen", 4 + 16 * (all.length() - 2), fault(15, all + ";"));
    }

    private static void sealBounds() {
        Kit.says("seal: once, N 1 to 996.");
        fault(4, 5, "seal 0;");
        fault(0, 0, "seal 1;");
        fault(0, 0, "seal 996;");
        fault(4, 5, "seal 997;");
        fault(3, 7, "seal 1;seal 1;");
    }

    private static void placesOfFaults() {
        Kit.says("FAULTS, kind + 16 * the place (from 0) of a token, the end being one at the text's length");
        fault(1, 4, "odds");
        fault(1, 9, "odds    \n");
        fault(1, 6, "odds 1");
        fault(1, 8, "odds 1 1");
        fault(1, 5, "first");
        fault(1, 7, "first 1");
        fault(1, 9, "first 1 2");
        fault(1, 3, "sum");
        fault(1, 5, "sum 0");
        fault(1, 7, "sum 0 1");
        fault(1, 4, "seal");
        fault(1, 6, "seal 1");
        fault(1, 0, "x");
        StringBuilder text = new StringBuilder();
        while (text.length() < 996) {
            text.append(' ');
        }
        fault(1, 1000, text + "odds");
        fault(1, 999, text + "   o");
        Kit.says("of the first token from the left that is wrong the least");
        fault(4, 5, "odds 0 1000; sum 0 0;");
        fault(1, 0, "x odds 0");
        fault(3, 7, "seal 1;seal 0;");
        fault(3, 10, "first 1 2;first 0 0;");
        fault(3, 14, "odds 1 1;odds 1 1000;");
        fault(5, 32, "sum 0 1;sum 0 1;sum 0 1;sum 0 1;sum 9 9;");
        fault(1, 5, "odds odds 1 1;");
        fault(1, 12, "seal 1;odds seal");
        fault(1, 15, "first 1 2;odds first");
        fault(1, 37, "sum 0 1;sum 0 1;sum 0 1;sum 0 1;odds sum");
    }

    private static void misplaced() {
        Kit.says("1 it is none, or can't stand there");
        fault(1, 0, "1 odds 1 1;");
        fault(1, 0, "~");
        fault(1, 8, "odds 1 1~;");
        fault(1, 7, "odds 1 x;");
        fault(1, 8, "first 1 ;");
        fault(1, 8, "sum 0 1 x;");
        fault(1, 8, "sum 0 1 sum 2 3;");
        fault(1, 7, "seal 1 1;");
        fault(1, 0, "odd 1 1;");
        fault(1, 0, "seals 1;");
    }

    private static void toldAgain() {
        Kit.says("3 a D that has odds, the word first or seal again, a PAGE told in this sum already");
        fault(3, 23, "odds 1 0;odds 2 0;odds 1 0;");
        fault(3, 19, "first 1 2;seal 1;  first");
        fault(3, 17, "seal 1;first 1 2;seal");
        fault(3, 10, "sum 0 1 2 1;");
        fault(0, 0, "sum 0 1;sum 1 0;");
    }

    private static void notAsTold() {
        Kit.says("4 a NUMBER that is not as told (a PAGE that is none, too)");
        fault(4, 4, "sum 4 0;");
        fault(0, 0, "sum 3 0;");
        fault(4, 12, "sum 0 1;sum 4 0;");
        fault(4, 8, "sum 0 1 9999;");
        fault(4, 5, "odds 9999 1;");
        fault(4, 7, "odds 1 9999;");
        fault(4, 5, "seal 9999;");
    }

    private static void oneTooMany() {
        Kit.says("5 one too many: the word sum of a fifth.");
        fault(5, 33, "sum 0 1;sum 0 1;sum 0 1;sum 0 1; sum");
        fault(5, 41, "sum 0 1;sum 0 1;sum 0 1;sum 0 1;odds 1 1;sum 0 1;");
        fault(1, 32, "sum 0 1;sum 0 1;sum 0 1;sum 0 1;summ");
    }

    private static void drawFromThenOn() {
        Kit.says("Without a FAULT it is THE DRAW from then on (in place of the one ahead; none at first, as of an empty text)");
        ThousandLeaflets x = new ThousandLeaflets();
        x.book(0, 4);
        x.page(0, 1, 9);
        ThousandLeaflets empty = Kit.told(4, "");
        for (int i = 0; i < 60; i++) {
            Kit.due("none at first, " + i, empty.leaflet(0, i, 0), x.leaflet(0, i, 0));
        }
        Kit.due("a draw", 0, Kit.draw(x, 0, "odds 4 1; sum 0 1; seal 5; first 1 9;"));
        Kit.due("four pages", 4, x.leaflet(0, 0, 3));
        Kit.due("a fault at its end", 1 + 16 * 32, Kit.draw(x, 0, "odds 2 1; sum 0 1;sum 0 1;seal 6"));
        Kit.due("the one ahead stays", 4, x.leaflet(0, 0, 3));
        Kit.due("with its hidden pages", 5, x.count(4));
        Kit.due("with its seal", (5 + 31 * x.leaflet(0, 0, 1)) % 997, x.leaflet(0, 0, 2));
        Kit.due("another draw", 0, Kit.draw(x, 0, "odds 2 1;"));
        Kit.due("nothing of the one ahead is left: two pages", 2, x.leaflet(0, 0, 3));
        Kit.due("no hidden page", 4, x.count(4));
        Kit.due("no seal", 0, x.leaflet(0, 0, 2));
        Kit.due("no weights", Kit.told(4, "odds 2 1;").leaflet(0, 7, 0), x.leaflet(0, 7, 0));
        Kit.due("the pages stay", 9, x.told(0, 1));
        Kit.due("the other book has none", false, x.count(5) != 0);
        Kit.says("if no PAPER of the BOOK and no NAMELESS one is in any HEAP.");
        x.book(1, 2);
        for (int q = 0; q < 4; q++) {
            x.comes(q, 0, 0, 1 + q % 3);
            Kit.due("a paper of it in quarter " + q, -1, Kit.draw(x, 0, ""));
            Kit.due("not of the other book", 0, Kit.draw(x, 1, "odds 2 1;"));
            x.away(q, 0);
            x.nameless(q, 0, 0);
            Kit.due("a nameless one in quarter " + q, -1, Kit.draw(x, 0, ""));
            Kit.due("for both books", -1, Kit.draw(x, 1, ""));
            x.away(q, 0);
        }
        Kit.due("the draws stay", 4, x.leaflet(0, 0, 3) + x.leaflet(1, 0, 3));
        Kit.due("all are away", 0, Kit.draw(x, 0, "odds 3 1;"));
        Kit.due("three pages", 3, x.leaflet(0, 0, 3));
    }

    private static void hiddenPages() {
        Kit.says("Each sum makes a HIDDEN page, numbered n, n + 1, .. in order: the SUM of its PAGES; ALL is n and the HIDDEN ones.");
        ThousandLeaflets x = Kit.told(3, "sum 0 1; sum 1 2; sum 0 2; sum 2 1 0; odds 7 1;");
        int[] due = {1, 2, 4, 3, 6, 5, 7};
        for (int p = 0; p < 7; p++) {
            Kit.due("told(0, " + p + ")", 257 * due[p], x.told(0, p));
        }
        Kit.due("told(0, 7)", -1, x.told(0, 7));
        Kit.due("all", 7, x.count(4));
        Kit.due("all seven", 127, x.leaflet(0, 3, 0));
        Kit.due("none in another book", 0, x.count(5));
        ThousandLeaflets most = Kit.told(16, "sum 0 1;sum 2 3;sum 4 5;sum 6 7;odds 20 1;");
        Kit.due("20 at most", 20, most.count(4));
        Kit.due("told(0, 19)", (257 << 6 ^ 257 << 7) & 65535, most.told(0, 19));
        Kit.due("told(0, 20)", -1, most.told(0, 20));
    }

    private static long next(long g) {
        return (g * 1103515245L + 12345L) % 2147483648L;
    }

    private static void drawsWrapAround() {
        Kit.says("to draw is to make g (g * 1103515245 + 12345) modulo 2147483648, and take g / 65536, cut.");
        ThousandLeaflets x = Kit.told(16, "");
        x.book(1, 16);
        for (int b = 0; b < 2; b++) {
            for (int number : new int[] {0, 1, 59, 60, 61, 4999, 9998, 9999}) {
                long g = next((number * 7919L + b * 104729L + 1) % 2147483648L);
                Kit.due("number " + number + " of book " + b, 1L << g / 65536 % 16, x.leaflet(b, number, 0));
            }
            Kit.due("number -1", -1, x.leaflet(b, -1, 0));
            Kit.due("number 10000", -1, x.leaflet(b, 10000, 0));
        }
    }

    private static void howMany() {
        Kit.says("TOTAL is the sum of the odds of all D from 1 to ALL. HOW MANY: 1 if TOTAL is 0");
        ThousandLeaflets x = Kit.told(3, "odds 4 999; odds 20 999;");
        ThousandLeaflets none = Kit.told(3, "");
        ThousandLeaflets zero = Kit.told(3, "odds 1 0; odds 2 0; odds 3 0; odds 4 7;");
        for (int i = 0; i < 80; i++) {
            Kit.due("odds beyond all, " + i, none.leaflet(0, i, 0), x.leaflet(0, i, 0));
            Kit.due("odds of 0, " + i, none.leaflet(0, i, 0), zero.leaflet(0, i, 0));
        }
        ThousandLeaflets hidden = Kit.told(3, "odds 4 999; odds 20 999; sum 0 1;");
        Kit.due("a hidden page makes D 4 count", 15, hidden.leaflet(0, 5, 0));
        Kit.says("the least D for which the odds up to D come to more than r.");
        ThousandLeaflets two = Kit.told(4, "odds 1 0; odds 2 1; odds 3 0; odds 4 1;");
        ThousandLeaflets most = Kit.told(4, "odds 1 999; odds 2 999; odds 3 999; odds 4 999;");
        for (int i = 0; i < 60; i++) {
            long drawn = next(i * 7919L + 1) / 65536;
            Kit.due("r is 0 or 1, " + i, drawn % 2 == 0 ? 2 : 4, two.leaflet(0, i, 3));
            Kit.due("r is up to 3995, " + i, 1 + drawn % 3996 / 999, most.leaflet(0, i, 3));
        }
    }

    private static void which() {
        Kit.says("of the pages (HIDDEN too) that are not in it yet, with r, what is drawn, modulo the sum of their weights,"
            + " the least for which the weights up to it come to more than r");
        ThousandLeaflets x = Kit.told(3, "odds 3 1; sum 0 1;");
        for (int i = 0; i < 60; i++) {
            long g = next(i * 7919L + 1);
            int lacks = 15;
            for (int many = 0; many < 3; many++) {
                g = next(g);
                long r = g / 65536 % Integer.bitCount(lacks);
                int left = lacks;
                for (long skip = 0; skip < r; skip++) {
                    left &= left - 1;
                }
                lacks &= ~(left & -left);
            }
            Kit.due("three of four, " + i, 15 & ~lacks, x.leaflet(0, i, 0));
        }
        Kit.says("the weight is N of first for PAGES below C, else 1.");
        int[] below = {1, 2, 3, 16};
        for (int c : below) {
            ThousandLeaflets y = Kit.told(3, "first " + c + " 9; sum 0 1;");
            int heavy = Math.min(c, 3);
            for (int i = 0; i < 60; i++) {
                long r = next(i * 7919L + 1) / 65536 % (9 * heavy + 4 - heavy);
                long page = r < 9 * heavy ? r / 9 : r - 8 * heavy;
                Kit.due("first " + c + " 9, number " + i, 1 << page, y.leaflet(0, i, 0));
            }
        }
    }

    private static void sealOfLeaflet() {
        Kit.says("its SEAL is ((x + 1) * N of seal + 31 * SUM) modulo 997, 0 without seal.");
        ThousandLeaflets x = Kit.told(1, "seal 996;");
        x.page(0, 0, 65535);
        Kit.due("the largest", (10000 * 996 + 31 * 65535) % 997, x.leaflet(0, 9999, 2));
        x.page(0, 0, 0);
        Kit.due("the sum 0", 996, x.leaflet(0, 0, 2));
        Kit.due("996 times 997", 0, x.leaflet(0, 996, 2));
        Kit.due("seal 1", 0, Kit.draw(x, 0, "seal 1;"));
        Kit.due("1", 1, x.leaflet(0, 0, 2));
        Kit.due("996", 996, x.leaflet(0, 995, 2));
        Kit.due("it wraps around", 1, x.leaflet(0, 997, 2));
        Kit.due("no seal", 0, Kit.draw(x, 0, ""));
        x.page(0, 0, 7);
        Kit.due("0 without seal", 0, x.leaflet(0, 9999, 2));
    }

    // ==== 2.

    private static void heapBounds() {
        Kit.says("QUARTERS 0 to 3 have a HEAP of PAPERS each, 40 at most, in the order in which they came.");
        ThousandLeaflets x = Kit.told(2, "");
        for (int q = 0; q < 4; q++) {
            for (int i = 0; i < 40; i++) {
                Kit.due("place " + i, i, x.comes(q, 0, 10 * i + q, 3));
            }
            Kit.due("a 41st", -1, x.comes(q, 0, 0, 3));
            Kit.due("count(" + q + ")", 40, x.count(q));
        }
        for (int q = 0; q < 4; q++) {
            for (int i = 0; i < 40; i++) {
                Kit.due("in order", 10 * i + q, x.paper(q, i, 1));
            }
        }
        Kit.due("quarter 4", -1, x.comes(4, 0, 0, 3));
        Kit.due("quarter -1", -1, x.comes(-1, 0, 0, 3));
        x.away(2, 39);
        Kit.due("room for one again", 39, x.comes(2, 0, 7, 3));
        Kit.due("and no more", -1, x.comes(2, 0, 7, 3));
        x.away(2, 0);
        Kit.due("those behind came up, it goes to the end", 39, x.comes(2, 0, 9999, 3));
        Kit.due("the first", 12, x.paper(2, 0, 1));
        Kit.due("the last", 9999, x.paper(2, 39, 1));
    }

    private static void bytesOfPapers() {
        Kit.says("BYTES (1 the low one, 2 the high one, 3 both; a BYTE that is not there is 0 in its SUM)");
        ThousandLeaflets x = Kit.told(1, "seal 3;");
        x.page(0, 0, 0xfeff);
        int[] due = {0x00ff, 0xfe00, 0xfeff};
        for (int bytes = 1; bytes <= 3; bytes++) {
            Kit.due("comes", bytes - 1, x.comes(0, 0, 4, bytes));
            Kit.due("sum", due[bytes - 1], x.paper(0, bytes - 1, 2));
            Kit.due("bytes", bytes, x.paper(0, bytes - 1, 3));
            Kit.due("seal", (5 * 3 + 31 * 0xfeff) % 997, x.paper(0, bytes - 1, 4));
        }
        Kit.due("bytes 0", -1, x.comes(0, 0, 4, 0));
        Kit.due("bytes 4", -1, x.comes(0, 0, 4, 4));
        x.comes(1, 0, 4, 2);
        Kit.due("a byte that is not there tells nothing", 0, x.solves(1, 0, 0, 0));
        Kit.due("the other one does", 1, x.solves(1, 0, 1, 0));
    }

    private static void thrownOut() {
        Kit.says("It is THROWN OUT at once (does not come) if it is not NAMELESS, has both BYTES, its BOOK has a seal,"
            + " and its SEAL is not the one for its NUMBER and SUM.");
        ThousandLeaflets x = Kit.told(1, "seal 10;");
        x.book(1, 1);
        int seal = (8 * 10 + 31 * 5) % 997;
        Kit.due("the right seal", 0, x.forged(0, 0, 7, 5, seal));
        Kit.due("one more", -1, x.forged(0, 0, 7, 5, seal + 1));
        Kit.due("one less", -1, x.forged(0, 0, 7, 5, seal - 1));
        Kit.due("the seal of another number", -1, x.forged(0, 0, 8, 5, seal));
        Kit.due("the seal of another sum", -1, x.forged(0, 0, 7, 6, seal));
        Kit.due("of a sum that is 997 more", 1, x.forged(0, 0, 7, 1002, seal));
        Kit.due("of a number that is 997 more", 2, x.forged(0, 0, 1004, 5, seal));
        Kit.due("four are thrown out", 4, x.count(7));
        Kit.due("three came", 3, x.count(0));
        Kit.due("a book without a seal", 3, x.forged(0, 1, 7, 5, seal + 1));
        Kit.fill(x, 0, 0, 40);
        Kit.due("no room, a right seal", -1, x.forged(0, 0, 7, 5, seal));
        Kit.due("is not thrown out", 4, x.count(7));
        Kit.due("no room, a wrong seal", -1, x.forged(0, 0, 7, 5, seal + 1));
        Kit.due("is thrown out at once", 5, x.count(7));
        Kit.due("a wrong call", -1, x.forged(4, 0, 7, 5, seal + 1));
        Kit.due("throws none out", 5, x.count(7));
    }

    private static void neverThrownOut() {
        Kit.says("(A TORN one is never; of NAMELESS ones SEALS are not looked at.)");
        ThousandLeaflets x = Kit.told(1, "seal 10;");
        x.book(1, 1);
        Kit.draw(x, 1, "seal 20;");
        x.page(0, 0, 0xabcd);
        Kit.due("torn, its seal is that of the whole sum", 0, x.comes(0, 0, 7, 1));
        Kit.due("which is another", false, (80 + 31 * 0xcd) % 997 == x.paper(0, 0, 4));
        Kit.due("torn", 1, x.comes(0, 0, 7, 2));
        Kit.due("nameless, of a sum that is nobody's", 2, x.nameless(0, 7, 1));
        Kit.due("its seal is 0", 0, x.paper(0, 2, 4));
        Kit.due("they swap", 3, x.swap(0, 1, 40));
        Kit.due("none is thrown out", 0, x.count(7));
    }

    // ==== 3.

    private static void equationsInOrder() {
        Kit.says("EQUATIONS: of each HIDDEN page, in order: the PAGES of its sum and it come to 0;"
            + " then of each PAPER of the BOOK that has that BYTE, in order");
        ThousandLeaflets x = Kit.told(2, "odds 1 1; sum 0 1;");
        Kit.due("the hidden one alone", 1, x.solves(0, 0, 0, 2));
        Kit.due("in the other byte, too", 1, x.solves(0, 0, 1, 2));
        Kit.due("of all quarters", 1, x.solves(3, 0, 1, 2));
        x.forged(0, 0, Kit.number(x, 1), 0x0101, 0);
        x.forged(0, 0, Kit.number(x, 2), 0x0202, 0);
        // The hidden equation is the first with one page left: the false paper of the hidden page comes too late.
        x.forged(0, 0, Kit.number(x, 4), 0x0505, 0);
        Kit.due("the hidden equation goes first", 0x0303, x.read(0, 0, 2, 0));
        Kit.due("the paper quarrels", 1, x.peels(0, 0, 0, 1));
        x.book(1, 2);
        x.comes(0, 1, 0, 3);
        x.nameless(0, 0, 9);
        Kit.due("papers of others do not count", 1, x.peels(0, 0, 0, 1));
        Kit.due("nor torn ones of the other byte", 5, x.comes(0, 0, Kit.number(x, 1), 1));
        Kit.due("it is a double of the low byte alone", 1, x.doubles(0, 0, 0) - x.doubles(0, 0, 1));
        ThousandLeaflets y = Kit.told(3, "odds 1 1; sum 0 1; sum 0 2; sum 1 2; sum 0 1 2;");
        Kit.fill(y, 0, 0, 39);
        int other = y.leaflet(0, 0, 0) == 1 ? 2 : 1;
        y.comes(0, 0, Kit.number(y, other), 3);
        Kit.due("the 40th behind four hidden ones by solving", 257 * other, y.read(0, 0, other - 1, 1));
        Kit.due("by peeling", 257 * other, y.read(0, 0, other - 1, 0));
    }

    private static void peeling() {
        Kit.says("no page is known at first; again and again the first EQUATION in which just one page is not known makes that one known");
        ThousandLeaflets x = Kit.told(3, "odds 1 1; odds 2 1; odds 3 1;");
        Kit.due("none at first", 0, x.peels(0, 0, 0, 0));
        x.comes(0, 0, Kit.number(x, 7), 3);
        x.comes(0, 0, Kit.number(x, 3), 3);
        Kit.due("none has one page", 0, x.peels(0, 0, 0, 0));
        x.comes(0, 0, Kit.number(x, 1), 3);
        Kit.due("from the last one back to the first", 7, x.peels(0, 0, 0, 0));
        Kit.due("page 2", 257 * 4, x.read(0, 0, 2, 0));
        // Page 1 is left in two equations: the first of them in the heap tells it, though the other came by itself.
        ThousandLeaflets y = Kit.told(2, "odds 1 1; odds 2 1;");
        y.forged(0, 0, Kit.number(y, 3), 0x0707, 0);
        y.forged(0, 0, Kit.number(y, 1), 0x0101, 0);
        y.forged(0, 0, Kit.number(y, 2), 0x0202, 0);
        Kit.due("page 1 by the first", 0x0606, y.read(0, 0, 1, 0));
        y.away(0, 0);
        Kit.due("page 1 by its own", 0x0202, y.read(0, 0, 1, 0));
    }

    private static void peelingStops() {
        Kit.says("it stops when there is none.");
        ThousandLeaflets x = Kit.told(3, "odds 2 1;");
        x.comes(0, 0, Kit.number(x, 3), 3);
        x.comes(0, 0, Kit.number(x, 6), 3);
        x.comes(0, 0, Kit.number(x, 5), 3);
        Kit.due("a ring", 0, x.peels(0, 0, 0, 0));
        Kit.due("a ring", 3, x.peels(0, 0, 0, 3));
        Kit.due("an empty heap", 0, x.peels(1, 0, 0, 0));
    }

    private static void quarrels() {
        Kit.says("QUARREL: an EQUATION of pages that are all known, which does not come out.");
        ThousandLeaflets x = Kit.told(2, "odds 1 1; odds 2 1;");
        Kit.due("none", 0, x.peels(0, 0, 0, 1));
        x.slip(0, 0, Kit.number(x, 3), 1);
        x.slip(0, 0, Kit.number(x, 0, 3, 1), 2);
        Kit.due("of pages that are not known, none", 0, x.peels(0, 0, 0, 1));
        x.comes(0, 0, Kit.number(x, 1), 1);
        Kit.due("the second one", 1, x.peels(0, 0, 0, 1));
        Kit.due("not in the other byte", 0, x.peels(0, 0, 1, 1));
        x.comes(0, 0, Kit.number(x, 2), 1);
        Kit.due("the third one", 2, x.peels(0, 0, 0, 1));
        ThousandLeaflets y = Kit.told(2, "odds 1 1; sum 0 1;");
        y.forged(0, 0, Kit.number(y, 4), 0, 0);
        y.forged(0, 0, Kit.number(y, 1), 1, 0);
        y.forged(0, 0, Kit.number(y, 2), 0, 0);
        Kit.due("the hidden equation comes out: page 1 is told by it", 1, y.peels(0, 0, 0, 1));
    }

    private static void work() {
        Kit.says("WORK: over all EQUATIONS the pages of it that are known, less how many pages are known.");
        ThousandLeaflets x = Kit.told(3, "odds 1 1; odds 2 1;");
        Kit.due("nothing", 0, x.peels(0, 0, 0, 2));
        x.comes(0, 0, Kit.number(x, 6), 3);
        Kit.due("nothing is known", 0, x.peels(0, 0, 0, 2));
        x.comes(0, 0, Kit.number(x, 1), 3);
        Kit.due("one page of one", 0, x.peels(0, 0, 0, 2));
        x.comes(0, 0, Kit.number(x, 3), 3);
        Kit.due("all three, in five places", 2, x.peels(0, 0, 0, 2));
        Kit.fill(x, 0, 0, 40);
        int places = 2 + 1 + 2 + 37 * x.leaflet(0, 0, 3);
        Kit.due("a full heap", places - 3, x.peels(0, 0, 0, 2));
        x.slip(1, 0, Kit.number(x, 1), 1);
        x.comes(1, 0, Kit.number(x, 1), 1);
        Kit.due("equations that quarrel count, too", 1, x.peels(1, 0, 0, 2));
    }

    private static void left() {
        Kit.says("LEFT: EQUATIONS with two or more that are not known.");
        ThousandLeaflets x = Kit.told(3, "odds 1 1; odds 2 1; odds 3 1; sum 0 1;");
        Kit.due("the hidden one, of three", 1, x.peels(0, 0, 0, 3));
        x.comes(0, 0, Kit.number(x, 6), 3);
        Kit.due("of two", 2, x.peels(0, 0, 0, 3));
        x.comes(0, 0, Kit.number(x, 7), 3);
        Kit.due("of three", 3, x.peels(0, 0, 0, 3));
        x.comes(0, 0, Kit.number(x, 1), 1);
        Kit.due("page 0 is known: of two each", 3, x.peels(0, 0, 0, 3));
        x.comes(0, 0, Kit.number(x, 2), 1);
        Kit.due("all are known", 0, x.peels(0, 0, 0, 3));
        Kit.due("the other byte", 3, x.peels(0, 0, 1, 3));
    }

    private static void agree() {
        Kit.says("the EQUATIONS AGREE if there are BYTES of all pages by which all come out.");
        ThousandLeaflets x = Kit.told(3, "odds 2 1;");
        Kit.due("no equation at all", 1, x.solves(0, 0, 0, 1));
        x.comes(0, 0, Kit.number(x, 3), 3);
        x.comes(0, 0, Kit.number(x, 6), 3);
        Kit.due("a false one of other pages", 2, x.slip(0, 0, Kit.number(x, 5), 0x0080));
        Kit.due("a ring that does not come out", 0, x.solves(0, 0, 0, 1));
        Kit.due("the high byte does", 1, x.solves(0, 0, 1, 1));
        Kit.due("no page is known: nothing quarrels", 0, x.peels(0, 0, 0, 1));
        x.away(0, 0);
        Kit.due("two false ones may agree", 1, x.solves(0, 0, 0, 1));
        ThousandLeaflets y = Kit.told(2, "odds 2 1; sum 0 1; sum 0 1;");
        y.forged(0, 0, Kit.number(y, 12), 0x0100, 0);
        Kit.due("two hidden pages of one sum can't differ", 0, y.solves(0, 0, 1, 1));
        Kit.due("in the low byte they don't", 1, y.solves(0, 0, 0, 1));
    }

    private static void fixed() {
        Kit.says("A page is FIXED if they AGREE and it has the same BYTE in all such.");
        ThousandLeaflets x = Kit.told(3, "odds 1 1; odds 2 1; sum 0 1;");
        Kit.due("none", 0, x.solves(0, 0, 0, 0));
        x.comes(0, 0, Kit.number(x, 3), 3);
        Kit.due("the hidden page alone", 8, x.solves(0, 0, 0, 0));
        x.comes(0, 0, Kit.number(x, 4), 1);
        Kit.due("page 2 in the low byte", 12, x.solves(0, 0, 0, 0));
        Kit.due("not in the high one", 8, x.solves(0, 0, 1, 0));
        x.slip(0, 0, Kit.number(x, 0, 4, 1), 1);
        Kit.due("they do not agree: none", 0, x.solves(0, 0, 0, 0));
        Kit.due("the high byte", 12, x.solves(0, 0, 1, 0));
        Kit.due("no byte of a page that is fixed in one", -1, x.read(0, 0, 2, 1));
    }

    private static void rank() {
        Kit.says("RANK: how many EQUATIONS at most of which none follows from others (by SUMS of their pages).");
        ThousandLeaflets x = Kit.told(3, "odds 2 1;");
        Kit.due("none", 0, x.solves(0, 0, 0, 2));
        x.comes(0, 0, Kit.number(x, 3), 3);
        x.comes(0, 0, Kit.number(x, 3), 3);
        Kit.due("two alike", 1, x.solves(0, 0, 0, 2));
        x.comes(0, 0, Kit.number(x, 6), 3);
        x.slip(0, 0, Kit.number(x, 5), 1);
        Kit.due("a false one follows by its pages all the same", 2, x.solves(0, 0, 0, 2));
        Kit.fill(x, 0, 0, 40);
        Kit.due("a full heap", 2, x.solves(0, 0, 0, 2));
        ThousandLeaflets y = Kit.told(16, "sum 0 1;sum 2 3;sum 4 5;sum 6 7;odds 1 1;");
        for (int p = 0; p < 16; p++) {
            y.comes(0, 0, Kit.number(y, 1 << p), 3);
        }
        Kit.due("twenty at most", 20, y.solves(0, 0, 0, 2));
        Kit.fill(y, 0, 0, 40);
        Kit.due("no more", 20, y.solves(0, 0, 0, 2));
    }

    private static void missing() {
        Kit.says("MISSING: ALL less RANK.");
        ThousandLeaflets x = Kit.told(2, "odds 1 1; sum 0 1;");
        Kit.due("hidden ones are of both", 2, x.solves(0, 0, 0, 3));
        x.comes(0, 0, Kit.number(x, 1), 1);
        Kit.due("one less", 1, x.solves(0, 0, 0, 3));
        Kit.due("the other byte", 2, x.solves(0, 0, 1, 3));
        x.comes(0, 0, Kit.number(x, 4), 1);
        Kit.due("none", 0, x.solves(0, 0, 0, 3));
        x.slip(0, 0, Kit.number(x, 2), 1);
        Kit.due("none, though they do not agree", 0, x.solves(0, 0, 0, 3));
    }

    private static void readBothBytes() {
        Kit.says("A PAGE is READ by peeling (how 0) or solving (how 1) if both of its BYTES are known (FIXED).");
        ThousandLeaflets x = Kit.told(2, "odds 1 1; odds 2 1;");
        x.page(0, 0, 0);
        x.page(0, 1, 65535);
        for (int how = 0; how < 2; how++) {
            Kit.due("none", -1, x.read(how, 0, 1, how));
            x.comes(3, 0, Kit.number(x, 1), 1);
            Kit.due("the low byte alone", -1, x.read(3, 0, 0, how));
            x.comes(how, 0, Kit.number(x, 2), 2);
            Kit.due("the high byte alone", -1, x.read(how, 0, 1, how));
            x.comes(how, 0, Kit.number(x, 2), 1);
            Kit.due("both", 65535, x.read(how, 0, 1, how));
            x.comes(how, 0, Kit.number(x, 1), 3);
            Kit.due("a page of 0", 0, x.read(how, 0, 0, how));
            x.slip(how, 0, Kit.number(x, 3), 0x0100);
        }
        Kit.due("peeling reads what does not agree", 65535, x.read(0, 0, 1, 0));
        Kit.due("solving does not, not even by one byte", -1, x.read(1, 0, 1, 1));
        Kit.due("how 2", -1, x.read(0, 0, 1, 2));
        Kit.due("how -1", -1, x.read(0, 0, 1, -1));
    }

    private static void soonest() {
        Kit.says("SOON: the least count of PAPERS (the first of the HEAP alone) with which it is READ.");
        ThousandLeaflets x = Kit.told(3, "odds 1 1; odds 2 1;");
        for (int how = 0; how < 2; how++) {
            Kit.due("an empty heap", -1, x.soon(0, 0, 0, how));
        }
        x.nameless(0, 0, 0);
        x.comes(0, 0, Kit.number(x, 1), 3);
        x.comes(0, 0, Kit.number(x, 6), 3);
        x.comes(0, 0, Kit.number(x, 5), 1);
        for (int i = 4; i < 39; i++) {
            x.comes(0, 0, Kit.number(x, 1), 3);
        }
        x.comes(0, 0, Kit.number(x, 5), 2);
        for (int how = 0; how < 2; how++) {
            Kit.due("papers of others are counted", 2, x.soon(0, 0, 0, how));
            Kit.due("with the very last", 40, x.soon(0, 0, 1, how));
            Kit.due("with the very last", 40, x.soon(0, 0, 2, how));
        }
        // What another heap has read does not help, in either byte.
        for (int how = 0; how < 2; how++) {
            for (int octet = 0; octet < 2; octet++) {
                ThousandLeaflets y = Kit.told(2, "");
                y.comes(0, 0, Kit.number(y, 1), 3);
                y.comes(1, 0, Kit.number(y, 1), 1 + octet);
                y.comes(1, 0, Kit.number(y, 2), 3);
                Kit.due("both bytes", 1, y.soon(0, 0, 0, how));
                Kit.due("read", 257, y.read(0, 0, 0, how));
                Kit.due("one byte alone", -1, y.soon(1, 0, 0, how));
            }
        }
        // What came later may spoil the reading, not how soon it was.
        ThousandLeaflets y = Kit.told(1, "");
        y.comes(0, 0, 0, 3);
        y.slip(0, 0, 1, 1);
        Kit.due("no more by solving", -1, y.read(0, 0, 0, 1));
        Kit.due("soon all the same", 1, y.soon(0, 0, 0, 1));
        // The low byte is spoilt before the high one comes.
        ThousandLeaflets z = Kit.told(1, "");
        z.comes(0, 0, 0, 1);
        z.slip(0, 0, 1, 1);
        Kit.due("never by solving", -1, z.soon(0, 0, 0, 1));
        Kit.due("by peeling", 2, z.soon(0, 0, 0, 0));
    }

    private static void slipped() {
        Kit.says("each PAPER (of this BOOK, with this BYTE) without which they do may be the one: SURE if it is the only one.");
        ThousandLeaflets x = Kit.told(2, "odds 1 1; odds 2 1;");
        x.book(1, 1);
        x.comes(0, 1, 0, 3);
        x.nameless(0, 0, 3);
        x.comes(0, 0, Kit.number(x, 1), 2);
        x.comes(0, 0, Kit.number(x, 1), 3);
        Kit.due("they agree", -1, x.slipped(0, 0, 0, 0));
        x.slip(0, 0, Kit.number(x, 0, 1, 1), 0x0001);
        Kit.due("one of two", 2, x.slipped(0, 0, 0, 0));
        Kit.due("others have no such byte, are of no such book", 3, x.slipped(0, 0, 0, 1));
        Kit.due("not sure", 0, x.slipped(0, 0, 0, 2));
        x.comes(0, 0, Kit.number(x, 0, 1, 2), 1);
        Kit.due("the only one", 1, x.slipped(0, 0, 0, 0));
        Kit.due("its place", 4, x.slipped(0, 0, 0, 1));
        Kit.due("sure", 1, x.slipped(0, 0, 0, 2));
        Kit.due("the high byte agrees", -1, x.slipped(0, 0, 1, 1));
        x.slip(0, 0, Kit.number(x, 0, 1, 3), 0x0002);
        Kit.due("none may be", 0, x.slipped(0, 0, 0, 0));
        Kit.due("none may be", -1, x.slipped(0, 0, 0, 1));
        Kit.due("none may be", 0, x.slipped(0, 0, 0, 2));
        // Two hidden pages of one sum: the hidden equations are never the ones.
        ThousandLeaflets y = Kit.told(2, "odds 2 1; sum 0 1; sum 0 1;");
        y.forged(0, 0, Kit.number(y, 12), 1, 0);
        Kit.due("the paper alone", 1, y.slipped(0, 0, 0, 0));
        Kit.due("sure", 1, y.slipped(0, 0, 0, 2));
        Kit.due("place 0", 0, y.slipped(0, 0, 0, 1));
        // The last of a full heap.
        ThousandLeaflets z = Kit.told(1, "");
        Kit.fill(z, 0, 0, 39);
        z.slip(0, 0, 1, 0x8000);
        Kit.due("the last of forty", 39, z.slipped(0, 0, 1, 1));
    }

    private static void putRight() {
        Kit.says("PUT RIGHT is a page of which the BYTE is FIXED, and the same, without each of these in turn.");
        ThousandLeaflets x = Kit.told(3, "odds 1 1; odds 2 1;");
        x.comes(0, 0, Kit.number(x, 1), 3);
        x.slip(0, 0, Kit.number(x, 0, 1, 1), 0x0001);
        x.comes(0, 0, Kit.number(x, 2), 3);
        Kit.due("told two ways", -1, x.right(0, 0, 0, 0));
        Kit.due("page 1 is the same", 2, x.right(0, 0, 0, 1));
        Kit.due("page 2 is not fixed", -1, x.right(0, 0, 0, 2));
        Kit.due("the high byte agrees: none is put right", -1, x.right(0, 0, 1, 1));
        x.comes(0, 0, Kit.number(x, 6), 3);
        Kit.due("page 2 is fixed without each", 4, x.right(0, 0, 0, 2));
        x.comes(0, 0, Kit.number(x, 5), 3);
        Kit.due("sure now: page 0", 1, x.right(0, 0, 0, 0));
        x.slip(0, 0, Kit.number(x, 0, 2, 1), 0x0004);
        Kit.due("none may be the one", -1, x.right(0, 0, 0, 0));
        // A page that is fixed without one of these, and not without the other.
        ThousandLeaflets y = Kit.told(3, "odds 1 1; odds 2 1; odds 3 1;");
        y.comes(0, 0, Kit.number(y, 1), 3);
        y.comes(0, 0, Kit.number(y, 3), 3);
        y.slip(0, 0, Kit.number(y, 2), 0x0010);
        Kit.due("each of three", 3, y.slipped(0, 0, 0, 0));
        Kit.due("fixed without each, but not the same", -1, y.right(0, 0, 0, 0));
        ThousandLeaflets z = Kit.told(1, "");
        z.page(0, 0, 0);
        z.comes(0, 0, 0, 3);
        z.comes(0, 0, 1, 3);
        z.slip(0, 0, 2, 0x0101);
        Kit.due("a byte of 0", 0, z.right(0, 0, 1, 0));
    }

    private static void doubles() {
        Kit.says("DOUBLES of a BYTE are PAPERS without which (one alone away) RANK is the same.");
        ThousandLeaflets x = Kit.told(3, "odds 1 1; odds 2 1; sum 0 1;");
        Kit.due("none", 0, x.doubles(0, 0, 0));
        x.comes(0, 0, Kit.number(x, 1), 3);
        Kit.due("one alone", 0, x.doubles(0, 0, 0));
        x.comes(0, 0, Kit.number(x, 1), 1);
        Kit.due("each of two alike", 2, x.doubles(0, 0, 0));
        Kit.due("the high byte has one", 0, x.doubles(0, 0, 1));
        x.comes(0, 0, Kit.number(x, 4), 3);
        Kit.due("the third is none", 2, x.doubles(0, 0, 0));
        x.nameless(0, 0, 0);
        x.book(1, 1);
        x.comes(0, 1, 0, 3);
        Kit.due("papers of others are none", 2, x.doubles(0, 0, 0));
        ThousandLeaflets y = Kit.told(2, "odds 1 1; odds 2 1; sum 0 1;");
        y.comes(0, 0, Kit.number(y, 3), 3);
        Kit.due("not by the hidden equation alone", 0, y.doubles(0, 0, 0));
        y.comes(0, 0, Kit.number(y, 4), 3);
        Kit.due("the hidden page and its sum", 2, y.doubles(0, 0, 0));
        Kit.fill(y, 1, 0, 40);
        Kit.due("all forty", 40, y.doubles(1, 0, 1));
    }

    private static void guards() {
        Kit.says("GUARD of a page that is FIXED: the least number of PAPERS (1 to 3) without which it isn't.");
        ThousandLeaflets x = Kit.told(2, "odds 1 1; odds 2 1; sum 0 1;");
        Kit.due("not fixed", -1, x.guard(0, 0, 0, 0));
        int[] due = {1, 2, 3, -1, -1};
        for (int i = 0; i < 5; i++) {
            x.comes(0, 0, Kit.number(x, 0, 1, i), 1);
            Kit.due(i + 1 + " papers of page 0", due[i], x.guard(0, 0, 0, 0));
            Kit.due("page 1 is not fixed", -1, x.guard(0, 0, 0, 1));
            Kit.due("nor the high byte", -1, x.guard(0, 0, 1, 0));
        }
        for (int i = 0; i < 3; i++) {
            x.comes(1, 0, Kit.number(x, 0, 3, i), 3);
            Kit.due("the hidden page by its sum", due[i], x.guard(1, 0, 1, 2));
        }
        x.comes(1, 0, Kit.number(x, 4), 3);
        Kit.due("and by itself: four", -1, x.guard(1, 0, 1, 2));
        Kit.due("page 0 is not fixed", -1, x.guard(1, 0, 1, 0));
        x.comes(1, 0, Kit.number(x, 2), 3);
        Kit.due("page 1 by one", 1, x.guard(1, 0, 1, 1));
        Kit.due("page 0 by one", 1, x.guard(1, 0, 1, 0));
        x.comes(2, 0, Kit.number(x, 3), 3);
        x.comes(2, 0, Kit.number(x, 1), 3);
        Kit.due("in two papers, one of which is enough", 1, x.guard(2, 0, 0, 0));
        Kit.due("page 1, too", 1, x.guard(2, 0, 0, 1));
        x.comes(3, 0, Kit.number(x, 1), 3);
        Kit.due("another heap with more of them", -1, x.guard(0, 0, 0, 0));
        Kit.due("does not help", 1, x.guard(3, 0, 0, 0));
        Kit.due("another heap, another page", 1, x.guard(2, 0, 0, 1));
        Kit.due("neither", 1, x.guard(3, 0, 0, 0));
    }

    private static void toCome() {
        Kit.says("TO COME: the least number of LEAFLETS more of the NUMBERS 0 to 10 (with both BYTES, right ones; if all AGREES)"
            + " by which all PAGES are FIXED in both BYTES; of as many the least as bits.");
        ThousandLeaflets x = Kit.told(1, "");
        Kit.due("one", 1, x.tocome(0, 0, 0));
        Kit.due("the least is number 0", 1, x.tocome(0, 0, 1));
        x.comes(0, 0, 5, 1);
        Kit.due("one byte is not enough", 1, x.tocome(0, 0, 0));
        x.comes(0, 0, 5, 2);
        Kit.due("all is fixed: none", 0, x.tocome(0, 0, 0));
        Kit.due("none as bits", 0, x.tocome(0, 0, 1));
        x.slip(0, 0, 6, 0x0100);
        Kit.due("the high byte does not agree", -1, x.tocome(0, 0, 0));
        Kit.due("nor as bits", -1, x.tocome(0, 0, 1));
        x.slip(1, 0, 6, 0x0001);
        Kit.due("a false one alone agrees, and fixes", 0, x.tocome(1, 0, 0));
        // A hidden page more need not come: the pages are enough.
        ThousandLeaflets y = Kit.told(2, "odds 1 1; sum 0 1;");
        Kit.due("two", 2, y.tocome(0, 0, 0));
    }

    private static void toComeEleven() {
        Kit.says("LEAFLETS more of the NUMBERS 0 to 10");
        int ten = 0;
        int eleven = 0;
        for (int n = 2; n <= 8; n++) {
            for (int way = 0; way < 8 * n; way++) {
                ThousandLeaflets x = Kit.told(n, "first " + (1 + way / 8) + " " + (2 + way % 8) + ";");
                int last = -1;
                int pages = 0;
                for (int i = 0; i <= 11; i++) {
                    if ((pages | x.leaflet(0, i, 0)) != pages) {
                        pages |= x.leaflet(0, i, 0);
                        last = i;
                    }
                }
                if (pages == (1 << n) - 1 && last == 10) {
                    ten++;
                    Kit.due("number 10 is needed", 1, x.tocome(0, 0, 1) >> 10);
                    Kit.due("as many as pages", n, x.tocome(0, 0, 0));
                }
                if (pages == (1 << n) - 1 && last == 11) {
                    eleven++;
                    Kit.due("number 11 does not count", -1, x.tocome(0, 0, 0));
                    x.comes(0, 0, 11, 3);
                    Kit.due("once it is there", n - 1, x.tocome(0, 0, 0));
                }
            }
        }
        Kit.due("both were seen", true, ten > 0 && eleven > 0);
        int all = 0;
        for (int way = 0; way < 40; way++) {
            ThousandLeaflets x = Kit.told(11, "odds 3 " + (1 + way) + "; odds 5 7; odds 6 " + (1 + way % 3) + ";");
            if (x.chances(0, 11, 11, 1) == 1) {
                all++;
                Kit.due("all eleven", 11, x.tocome(0, 0, 0));
                Kit.due("all eleven as bits", 2047, x.tocome(0, 0, 1));
            } else {
                Kit.due("they are not enough", -1, x.tocome(0, 0, 0));
            }
        }
        Kit.due("eleven pages by eleven were seen", true, all > 0 && all < 40);
    }

    // ==== 4.

    private static void chances() {
        Kit.says("of the sets of k NUMBERS from 0 to m - 1 (m 1 to 11), how many give all PAGES (the HIDDEN ones may be lacking),"
            + " by peeling or solving, without any other PAPER.");
        ThousandLeaflets x = Kit.told(1, "");
        int[] row = {1, 11, 55, 165, 330, 462, 462, 330, 165, 55, 11, 1};
        for (int how = 0; how < 2; how++) {
            Kit.due("m 1, k 0", 0, x.chances(0, 1, 0, how));
            Kit.due("m 1, k 1", 1, x.chances(0, 1, 1, how));
            Kit.due("m 11, k 0", 0, x.chances(0, 11, 0, how));
            for (int k = 1; k <= 11; k++) {
                Kit.due("m 11, k " + k, row[k], x.chances(0, 11, k, how));
            }
            Kit.due("m 0", -1, x.chances(0, 0, 0, how));
            Kit.due("m 12", -1, x.chances(0, 12, 1, how));
            Kit.due("k 12 of 11", -1, x.chances(0, 11, 12, how));
            Kit.due("k 2 of 1", -1, x.chances(0, 1, 2, how));
            Kit.due("k -1", -1, x.chances(0, 11, -1, how));
        }
        for (int way = 0; way < 16; way++) {
            int n = 2 + way % 4;
            ThousandLeaflets each = Kit.told(n, way < 4 ? "" : "first " + way / 4 + " 2;");
            for (int m = 1; m <= 11; m++) {
                for (int k = 0; k <= m; k++) {
                    int due = onePageSets(each, n, m, k);
                    Kit.due("n " + n + ", m " + m + ", k " + k, due, each.chances(0, m, k, 0));
                    Kit.due("n " + n + ", m " + m + ", k " + k, due, each.chances(0, m, k, 1));
                }
            }
        }
        ThousandLeaflets y = Kit.told(12, "");
        Kit.fill(y, 0, 0, 40);
        Kit.due("more pages than leaflets", 0, y.chances(0, 11, 11, 1));
        ThousandLeaflets z = Kit.told(2, "odds 1 1; sum 0 1;");
        int hidden = 0;
        for (int i = 0; i < 11; i++) {
            hidden += z.leaflet(0, i, 0) == 4 ? 1 : 0;
        }
        Kit.due("some are the hidden page", true, hidden > 0);
        Kit.due("two of different pages are enough", pairs(z), z.chances(0, 11, 2, 0));
        Kit.due("by solving, too", pairs(z), z.chances(0, 11, 2, 1));
    }

    /** The sets of leaflets of one page each that have all pages. */
    private static int onePageSets(ThousandLeaflets x, int n, int m, int k) {
        int[] pages = new int[m];
        for (int i = 0; i < m; i++) {
            pages[i] = x.leaflet(0, i, 0);
        }
        int found = 0;
        for (int set = 0; set < 1 << m; set++) {
            int there = 0;
            for (int i = 0; i < m; i++) {
                there |= (set >> i & 1) != 0 ? pages[i] : 0;
            }
            found += Integer.bitCount(set) == k && there == (1 << n) - 1 ? 1 : 0;
        }
        return found;
    }

    private static int pairs(ThousandLeaflets x) {
        int found = 0;
        for (int i = 0; i < 11; i++) {
            for (int j = 0; j < i; j++) {
                found += x.leaflet(0, i, 0) != x.leaflet(0, j, 0) ? 1 : 0;
            }
        }
        return found;
    }

    private static void enough() {
        Kit.says("ENOUGH: the least k for which all sets do");
        ThousandLeaflets x = Kit.told(1, "");
        Kit.due("one of one", 1, x.enough(0, 1, 0, false));
        Kit.due("one of eleven", 1, x.enough(0, 11, 1, false));
        ThousandLeaflets y = Kit.told(3, "");
        int[] of = new int[3];
        for (int i = 0; i < 11; i++) {
            of[Integer.bitCount(y.leaflet(0, i, 0) - 1)]++;
        }
        int least = Math.min(of[0], Math.min(of[1], of[2]));
        Kit.due("all but the rarest page's, and one", 11 - least + 1, y.enough(0, 11, 0, false));
        Kit.due("all five", 5, y.enough(0, 5, 1, false));
        Kit.due("not even all four", -1, y.enough(0, 4, 1, false));
    }

    private static void half() {
        Kit.says("HALF: for which at least half do. (k 0 to m.)");
        // Four leaflets of two pages, three of them alike: three of the six pairs give all, just half.
        int seen = 0;
        for (int weight = 1; weight <= 9; weight++) {
            ThousandLeaflets x = Kit.told(2, weight == 1 ? "" : "first 1 " + weight + ";");
            int ones = 0;
            for (int i = 0; i < 4; i++) {
                ones += x.leaflet(0, i, 0) == 1 ? 1 : 0;
            }
            if (ones == 1 || ones == 3) {
                seen++;
                Kit.due("three of six", 3, x.chances(0, 4, 2, 0));
                Kit.due("just half", 2, x.enough(0, 4, 0, true));
                Kit.due("all", 4, x.enough(0, 4, 0, false));
            }
        }
        Kit.due("such were seen", true, seen > 0);
        ThousandLeaflets y = Kit.told(3, "");
        Kit.due("four of ten are less than half, four of five more", 4, y.enough(0, 5, 1, true));
        Kit.due("k m: none", -1, y.enough(0, 4, 0, true));
        ThousandLeaflets one = Kit.told(1, "");
        Kit.due("k 0 never", 1, one.enough(0, 11, 0, true));
    }

    private static void average() {
        Kit.says("AVERAGE: over all orders in which the m LEAFLETS can come how many have come when those that came give all first,"
            + " as a fraction in lowest terms (if all m give all).");
        ThousandLeaflets x = Kit.told(1, "");
        for (int m = 1; m <= 11; m++) {
            Kit.due("one page, above", 1, x.average(0, m, 0, 0));
            Kit.due("one page, below", 1, x.average(0, m, 1, 1));
        }
        ThousandLeaflets y = Kit.told(3, "");
        Kit.due("19 / 5", 19, y.average(0, 5, 0, 0));
        Kit.due("19 / 5", 5, y.average(0, 5, 0, 1));
        Kit.due("all four do not", -1, y.average(0, 4, 0, 0));
        Kit.due("all four do not", -1, y.average(0, 4, 0, 1));
        for (int m = 5; m <= 11; m++) {
            long above = y.average(0, m, 1, 0);
            long below = y.average(0, m, 1, 1);
            Kit.due("lowest terms, m " + m, 1, java.math.BigInteger.valueOf(above).gcd(java.math.BigInteger.valueOf(below)).intValue());
            Kit.due("between 3 and m", true, above >= 3 * below && above <= m * below);
        }
        // Leaflets of two pages alone: nothing to start peeling with.
        ThousandLeaflets z = Kit.told(2, "odds 2 1; sum 0 1;");
        Kit.due("by solving", true, z.average(0, 11, 1, 0) > 0);
        Kit.due("by peeling they never do", -1, z.average(0, 11, 0, 0));
        Kit.due("no such what", -1, y.average(0, 5, 0, 2));
    }

    private static void bestDegree() {
        Kit.says("BEST DEGREE: the D (1 to ALL) with which, if THE DRAW had no odds but odds D 1, the most sets of k give all; of equal ones the least.");
        for (int how = 0; how < 2; how++) {
            for (int n = 1; n <= 4; n++) {
                String rest = n == 1 ? "seal 5;" : "seal 5; first 1 3; sum 0 1;";
                ThousandLeaflets x = Kit.told(n, "odds 1 5; odds 2 9; " + rest);
                int all = x.count(4);
                for (int k = 0; k <= 8; k += 2) {
                    int best = 0;
                    int most = -1;
                    for (int d = 1; d <= all; d++) {
                        int giving = Kit.told(n, "odds " + d + " 1;" + rest).chances(0, 8, k, how);
                        best = giving > most ? d : best;
                        most = Math.max(most, giving);
                    }
                    Kit.due("n " + n + ", k " + k + ", how " + how, best, x.degree(0, 8, k, how));
                }
            }
        }
        ThousandLeaflets y = Kit.told(16, "");
        Kit.due("none gives all: the least", 1, y.degree(0, 11, 11, 1));
        Kit.due("k 0: the least", 1, y.degree(0, 1, 0, 0));
    }

    private static void apart() {
        Kit.says("APART: each NAMELESS PAPER of a HEAP (6 at most there) is of BOOK 0 or 1");
        ThousandLeaflets x = Kit.told(1, "");
        Kit.tell(x, 1, 1, "");
        x.page(1, 0, 9);
        for (int i = 0; i < 6; i++) {
            Kit.due("nameless", i, x.nameless(0, i, i % 2 == 0 ? 257 : 9));
        }
        Kit.due("a seventh", -1, x.nameless(0, 6, 9));
        for (int i = 0; i < 6; i++) {
            Kit.due("either book may be 257", 2, x.apart(0, i));
        }
        x.comes(0, 1, 0, 2);
        Kit.due("the high byte of book 1 is 0", 0, x.apart(0, 0));
        Kit.due("the others are of book 1", 1, x.apart(0, 5));
        x.swap(0, 1, 6);
        Kit.due("in another heap they are of either still", 2, x.apart(1, 5));
        Kit.says("of all ways in which the EQUATIONS of both BYTES of both BOOKS AGREE (all PAPERS of the HEAP together)");
        x.away(0, 5);
        Kit.due("a third kind", 6, x.nameless(0, 7, 10));
        for (int i = 0; i < 5; i++) {
            Kit.due("no way", -1, x.apart(0, i));
        }
        Kit.due("no way", -1, x.apart(0, 6));
        x.away(0, 6);
        x.slip(0, 0, 3, 1);
        Kit.due("no way by a paper that is slipped", -1, x.apart(0, 0));
        ThousandLeaflets y = Kit.told(2, "");
        Kit.tell(y, 1, 2, "");
        y.nameless(0, 0, 65535);
        Kit.due("one alone", 2, y.apart(0, 0));
        y.comes(0, 1, 0, 1);
        Kit.due("by the low byte of the other one", 0, y.apart(0, 0));
    }

    /** What the ones with a name tell must agree in each byte of each book, whichever the nameless one is of. */
    private static void apartQuarrels() {
        Kit.says("of all ways in which the EQUATIONS of both BYTES of both BOOKS AGREE (all PAPERS of the HEAP together)");
        for (int b = 0; b < 2; b++) {
            for (int octet = 0; octet < 2; octet++) {
                ThousandLeaflets x = Kit.told(1, "");
                x.book(1, 1);
                x.nameless(0, 0, 257 * b);
                x.comes(0, b, 0, 1 + octet);
                Kit.due("a way", true, x.apart(0, 0) >= 0);
                x.slip(0, b, 1, 1 << 8 * octet);
                Kit.due("no way: byte " + octet + " of book " + b, -1, x.apart(0, 0));
            }
        }
        // A nameless paper has other pages as one of book 0 than as one of book 1.
        ThousandLeaflets y = Kit.told(2, "odds 1 1;");
        Kit.tell(y, 1, 3, "odds 2 1;");
        for (int number = 0; number < 60; number++) {
            y.nameless(0, number, y.leaflet(0, number, 1));
            y.comes(0, 0, Kit.number(y, 1), 3);
            y.comes(0, 0, Kit.number(y, 2), 3);
            Kit.due("of book 0, or of 1 that tells nothing yet", 2, y.apart(0, 0));
            y.comes(0, 1, Kit.number(y, 1, 3, 0), 3);
            y.comes(0, 1, Kit.number(y, 1, 6, 0), 3);
            Kit.due("a page of one bit is not the sum of two", 0, y.apart(0, 0));
            y.nameless(1, number, y.leaflet(1, number, 1));
            y.swap(0, 1, 40);
            Kit.due("a sum of two is not one of its pages", 1, y.apart(1, 0));
            for (int i = y.count(0); i > 0; i--) {
                y.away(0, 0);
            }
            for (int i = y.count(1); i > 0; i--) {
                y.away(1, 0);
            }
        }
    }

    private static void apartNeedsBoth() {
        Kit.says("(Both BOOKS must be told.)");
        ThousandLeaflets x = new ThousandLeaflets();
        x.nameless(0, 0, 0);
        Kit.due("no book", -1, x.apart(0, 0));
        x.book(0, 1);
        x.nameless(0, 0, 0);
        Kit.due("book 0", -1, x.apart(0, 0));
        x.book(1, 1);
        x.nameless(0, 0, 0);
        Kit.due("both", 2, x.apart(0, 0));
        ThousandLeaflets y = new ThousandLeaflets();
        y.book(1, 1);
        y.nameless(0, 0, 0);
        Kit.due("book 1", -1, y.apart(0, 0));
    }

    // ==== 5.

    private static int ash(int b, int x, int q) {
        return (x * 37 + 11 * b + 101 * q + 13) * 7 % 100;
    }

    private static void falls() {
        Kit.says("a LEAFLET FALLS if ((x * 37 + 11 * b + 101 * q + 13) * 7) modulo 100 is not below its BURN (0 to 100; 0 at first).");
        for (int b = 0; b < 2; b++) {
            for (int number : new int[] {0, 9999}) {
                ThousandLeaflets x = new ThousandLeaflets();
                x.book(b, 1);
                Kit.due("0 at first: all fall", 4, x.scatter(b, number, number));
                for (int q = 0; q < 4; q++) {
                    int at = ash(b, number, q);
                    x.away(q, 0);
                    x.quarter(q, at + 1, 1);
                    Kit.due("below its burn", 0, x.scatter(b, number, number));
                    x.quarter(q, 100, 1);
                    Kit.due("burn 100", 0, x.scatter(b, number, number));
                    x.quarter(q, at, 1);
                    Kit.due("not below its burn", 1, x.scatter(b, number, number));
                    Kit.due("it is there", 1, x.count(q));
                }
            }
        }
        ThousandLeaflets x = new ThousandLeaflets();
        Kit.due("burn 101", false, x.quarter(0, 101, 1));
        Kit.due("burn -1", false, x.quarter(0, -1, 1));
    }

    /** The least m by the pages of leaflets of one page each, 0 if more than so many would be needed. */
    private static int needs(ThousandLeaflets x, int n, int q, int burn, int most) {
        int pages = 0;
        for (int i = 0; i < most; i++) {
            pages |= ash(0, i, q) >= burn ? x.leaflet(0, i, 0) : 0;
            if (pages == (1 << n) - 1) {
                return i + 1;
            }
        }
        return 0;
    }

    private static void needsUpToSixty() {
        Kit.says("NEEDS of a QUARTER: the least m (0 to 60) for which those of the NUMBERS 0 to m - 1 that FALL there give all PAGES by solving.");
        int sixty = 0;
        int more = 0;
        for (int n = 1; n <= 16; n++) {
            ThousandLeaflets x = Kit.told(n, "");
            for (int q = 0; q < 4; q++) {
                for (int burn = 0; burn <= 100; burn++) {
                    int due = needs(x, n, q, burn, 62);
                    if (due >= 59 || burn == 0 || burn == 100) {
                        x.quarter(q, burn, 1);
                        sixty += due == 60 ? 1 : 0;
                        more += due == 61 ? 1 : 0;
                        Kit.due("n " + n + ", quarter " + q + ", burn " + burn, due == 0 || due > 60 ? -1 : due, x.needs(q, 0));
                    }
                }
            }
        }
        Kit.due("60 and 61 were seen", true, sixty > 0 && more > 0);
        ThousandLeaflets y = Kit.told(3, "odds 2 1;");
        Kit.due("pairs never", -1, y.needs(0, 0));
        ThousandLeaflets z = Kit.told(1, "");
        Kit.due("one", 1, z.needs(3, 0));
        // Two of different pages, the hidden one among them, are enough, whatever came and was read.
        ThousandLeaflets two = Kit.told(2, "odds 1 1; sum 0 1;");
        int due = 1;
        while (two.leaflet(0, due, 0) == two.leaflet(0, 0, 0)) {
            due++;
        }
        Kit.due("before all", due + 1, two.needs(0, 0));
        two.comes(0, 0, Kit.number(two, 1), 3);
        two.comes(0, 0, Kit.number(two, 2), 3);
        for (int octet = 0; octet < 2; octet++) {
            Kit.due("all is read", 7, two.solves(0, 0, octet, 0));
            Kit.due("papers do not count", due + 1, two.needs(0, 0));
            Kit.due("nor for the town", due + 1, two.town(0, 100));
        }
    }

    private static void houses() {
        Kit.says("HOUSES (0 to 999; 1 at first).");
        ThousandLeaflets x = new ThousandLeaflets();
        Kit.due("1 at first", 4, x.count(8));
        Kit.due("1000", false, x.quarter(0, 0, 1000));
        Kit.due("-1", false, x.quarter(0, 0, -1));
        Kit.due("as before", 4, x.count(8));
        for (int q = 0; q < 4; q++) {
            Kit.due("999", true, x.quarter(q, 0, 999));
        }
        Kit.due("the most", 3996, x.count(8));
        for (int q = 0; q < 4; q++) {
            Kit.due("0", true, x.quarter(q, 0, 0));
        }
        Kit.due("none", 0, x.count(8));
    }

    private static void town() {
        Kit.says("TOWN: the least m (0 to 60) for which the HOUSES of the QUARTERS whose NEEDS are m or less come to a told share"
            + " (0 to 100) of 100 of all HOUSES or more.");
        ThousandLeaflets x = Kit.told(1, "");
        Kit.due("share 0", 0, x.town(0, 0));
        Kit.due("share 1", 1, x.town(0, 1));
        Kit.due("share 100", 1, x.town(0, 100));
        Kit.due("share -1", -1, x.town(0, -1));
        Kit.due("share 101", -1, x.town(0, 101));
        x.quarter(0, 0, 333);
        x.quarter(1, 100, 667);
        x.quarter(2, 100, 0);
        x.quarter(3, 100, 0);
        Kit.due("33.3 of 100, share 33", 1, x.town(0, 33));
        Kit.due("33.3 of 100, share 34", -1, x.town(0, 34));
        x.quarter(0, 0, 340);
        x.quarter(1, 100, 660);
        Kit.due("just 34", 1, x.town(0, 34));
        x.quarter(0, 0, 999);
        x.quarter(1, 100, 1);
        Kit.due("all but one house of 1,000, share 99", 1, x.town(0, 99));
        Kit.due("all but one house of 1,000, share 100", -1, x.town(0, 100));
        x.quarter(0, 100, 0);
        x.quarter(1, 100, 0);
        Kit.due("no houses: a share of nothing is there", 0, x.town(0, 100));
        Kit.due("no houses, share 101", -1, x.town(0, 101));
        Kit.due("no houses, share -1", -1, x.town(0, -1));
        x.quarter(3, 0, 999);
        Kit.due("all houses are in quarter 3", 1, x.town(0, 100));
    }

    private static void townUpToSixty() {
        Kit.says("the least m (0 to 60)");
        int sixty = 0;
        int more = 0;
        for (int n = 1; n <= 16; n++) {
            ThousandLeaflets x = Kit.told(n, "");
            for (int q = 0; q < 4; q++) {
                x.quarter(q, 100, 0);
            }
            for (int q = 0; q < 4; q++) {
                for (int burn = 0; burn <= 100; burn++) {
                    int due = needs(x, n, q, burn, 62);
                    if (due >= 60) {
                        x.quarter(q, burn, 1);
                        sixty += due == 60 ? 1 : 0;
                        more += due == 61 ? 1 : 0;
                        Kit.due("n " + n + ", quarter " + q + ", burn " + burn, due > 60 ? -1 : 60, x.town(0, 100));
                        x.quarter(q, 100, 0);
                    }
                }
            }
        }
        Kit.due("60 and 61 were seen", true, sixty > 0 && more > 0);
    }

    private static void swaps() {
        Kit.says("a QUARTER gets from another one the first k PAPERS of that HEAP that it lacks (it has none alike in all that a PAPER has)");
        ThousandLeaflets x = Kit.told(2, "");
        x.book(1, 2);
        x.forged(0, 0, 7, 5, 1);
        x.forged(1, 0, 8, 5, 1);
        x.forged(1, 0, 7, 6, 1);
        x.forged(1, 0, 7, 5, 2);
        x.forged(1, 1, 7, 5, 1);
        x.nameless(1, 7, 5);
        Kit.due("another number, sum, seal, book, none: it lacks it", 1, x.swap(0, 1, 40));
        Kit.due("it has it", 0, x.swap(0, 1, 40));
        Kit.due("behind the others", 1, x.paper(1, 5, 4));
        ThousandLeaflets y = Kit.told(1, "");
        y.page(0, 0, 0);
        y.comes(0, 0, 3, 1);
        y.comes(0, 0, 3, 2);
        y.comes(0, 0, 3, 3);
        y.comes(0, 0, 3, 3);
        Kit.due("k 0", 0, y.swap(0, 1, 0));
        Kit.due("k 1", 1, y.swap(0, 1, 1));
        Kit.due("the first", 1, y.paper(1, 0, 3));
        Kit.due("other bytes are not alike, two alike are one", 2, y.swap(0, 1, 3));
        Kit.due("an empty heap gives none", 0, y.swap(3, 1, 40));
        Kit.says("as long as there is room (of a NAMELESS one if fewer than 6 are there).");
        ThousandLeaflets z = Kit.told(1, "");
        for (int i = 0; i < 6; i++) {
            z.nameless(0, i, i);
            z.nameless(1, 10 + i, i);
        }
        z.comes(0, 0, 1, 3);
        z.comes(0, 0, 2, 3);
        Kit.due("six are there: the ones with a name come", 2, z.swap(0, 1, 40));
        z.away(1, 0);
        Kit.due("five are there: one comes", 1, z.swap(0, 1, 40));
        Kit.due("the first that it lacks", 0, z.paper(1, 7, 1));
        z.comes(2, 0, 5, 3);
        z.comes(2, 0, 6, 3);
        Kit.fill(z, 3, 0, 39);
        Kit.due("room for one", 1, z.swap(2, 3, 2));
        Kit.due("it is the first", 5, z.paper(3, 39, 1));
        Kit.due("no room", 0, z.swap(2, 3, 2));
        Kit.due("nor for nameless ones", 0, z.swap(0, 3, 40));
    }

    private static void marks() {
        Kit.says("MARKS 0 to 3 hold the HEAPS of all QUARTERS, none at first");
        ThousandLeaflets x = Kit.told(1, "");
        for (int m = -1; m <= 4; m++) {
            Kit.due("none at first", false, x.mark(m, true));
        }
        for (int m = 0; m < 4; m++) {
            x.comes(m, 0, m, 3);
            Kit.due("mark " + m, true, x.mark(m, false));
        }
        Kit.due("mark 4", false, x.mark(4, false));
        Kit.due("mark -1", false, x.mark(-1, false));
        for (int m = 3; m >= 0; m--) {
            Kit.due("back to " + m, true, x.mark(m, true));
            for (int q = 0; q < 4; q++) {
                Kit.due("quarter " + q, q <= m ? 1 : 0, x.count(q));
            }
        }
        Kit.due("forth again", true, x.mark(3, true));
        Kit.due("the paper of quarter 3", 3, x.paper(3, 0, 1));
        Kit.fill(x, 2, 0, 40);
        x.mark(1, false);
        x.mark(0, true);
        x.mark(1, true);
        Kit.due("a full heap", 40, x.count(2));
        Kit.due("no room", -1, x.comes(2, 0, 0, 3));
    }

    private static void marksForgotten() {
        Kit.says("a MARK is forgotten as a BOOK is told or a DRAW is read.");
        ThousandLeaflets x = new ThousandLeaflets();
        x.book(0, 2);
        markAll(x);
        x.book(1, 1);
        Kit.due("a book is told", 0, marksThere(x));
        markAll(x);
        x.book(2, 1);
        x.book(0, 0);
        Kit.due("none is told", 4, marksThere(x));
        Kit.draw(x, 1, "odds 1 1;");
        Kit.due("a draw is read", 0, marksThere(x));
        markAll(x);
        Kit.draw(x, 1, "odds 1 1");
        Kit.due("it has a fault", 4, marksThere(x));
        Kit.feed(x, "odds 1 1;");
        x.draw(2);
        Kit.due("no such book", 4, marksThere(x));
        x.comes(0, 0, 0, 3);
        Kit.draw(x, 0, "odds 1 1;");
        Kit.due("a paper is in a heap", 4, marksThere(x));
        x.comes(0, 0, 0, 3);
        markAll(x);
        x.away(0, 0);
        Kit.due("a page is told", true, x.page(0, 0, 5));
        Kit.due("marks stay", 4, marksThere(x));
        Kit.due("the paper is back, as it was", 0, x.paper(0, 0, 2));
        x.away(0, 0);
        Kit.due("an empty text", 0, x.draw(0));
        Kit.due("is a draw, too", 0, marksThere(x));
    }

    private static void markAll(ThousandLeaflets x) {
        for (int m = 0; m < 4; m++) {
            x.mark(m, false);
        }
    }

    private static int marksThere(ThousandLeaflets x) {
        int there = 0;
        for (int m = 0; m < 4; m++) {
            there += x.mark(m, true) ? 1 : 0;
        }
        return there;
    }
}
