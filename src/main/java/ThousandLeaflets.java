import java.util.NoSuchElementException;

public final class ThousandLeaflets {
    public static final int NONE = -1;

    private static final int BOOKS = 2;
    private static final int MOST_PAGES = 16;
    private static final int MOST_SUMS = 4;
    private static final int MOST_ALL = 20;
    private static final int PAGE_BITS = (1 << MOST_ALL) - 1;
    private static final int MOST_VALUE = 65535;
    private static final int MOST_NUMBER = 9999;
    private static final int MOST_ODDS = 999;
    private static final int SEALS = 997;
    private static final int PEELING = 0;
    private static final int SOLVING = 1;

    private static final int QUARTERS = 4;
    private static final int MARKS = 4;
    private static final int HEAP_ROOM = 40;
    private static final int NAMELESS_ROOM = 6;
    private static final int OCTETS = 2;
    private static final int BOTH = 3;
    private static final int MOST_EQUATIONS = MOST_SUMS + HEAP_ROOM;

    private static final int TAPE_ROOM = 1000;
    private static final int MOST_THROWN = 60;
    private static final int MOST_SCATTERED = 100;
    private static final int MOST_IN_SET = 11;
    private static final int MOST_GUARD = 3;
    private static final int MOST_HOUSES = 999;

    private final Book[] books = new Book[BOOKS];
    private final Heap[] heaps = new Heap[QUARTERS];
    private final Heap[] kept = new Heap[MARKS * QUARTERS];
    private final boolean[] marked = new boolean[MARKS];
    private final int[] burns = new int[QUARTERS];
    private final int[] houses = new int[QUARTERS];
    private final int[] needed = new int[QUARTERS];
    private final DrawReader reader = new DrawReader();
    private final Equations[] equations = new Equations[OCTETS];
    private final Basis[] bases = new Basis[OCTETS];
    private final Sets sets = new Sets();
    private final Coming coming = new Coming();
    private final Ways ways = new Ways();
    private int thrownOut;

    public ThousandLeaflets() {
        for (int b = 0; b < BOOKS; b++) {
            books[b] = new Book(b);
        }
        for (int q = 0; q < QUARTERS; q++) {
            heaps[q] = new Heap();
            houses[q] = 1;
        }
        for (int i = 0; i < MARKS * QUARTERS; i++) {
            kept[i] = new Heap();
        }
        for (int o = 0; o < OCTETS; o++) {
            equations[o] = new Equations();
            bases[o] = new Basis();
        }
    }

    // ---- books, their pages and the draw

    public boolean book(int book, int n) {
        if (!isBook(book) || n < 1 || n > MOST_PAGES) {
            return false;
        }
        books[book].tell(n);
        for (int q = 0; q < QUARTERS; q++) {
            heaps[q].dropTouching(book);
        }
        forgetMarks();
        return true;
    }

    public boolean page(int book, int page, int v) {
        if (!isTold(book) || page < 0 || page >= books[book].pages) {
            return false;
        }
        if (v < 0 || v > MOST_VALUE || isTouched(book)) {
            return false;
        }
        books[book].value[page] = v;
        return true;
    }

    public int feed(long a, long b, long c) {
        Tape tape = reader.tape;
        tape.takeEight(a);
        tape.takeEight(b);
        tape.takeEight(c);
        return tape.length;
    }

    public int draw(int book) {
        int answer = NONE;
        if (isTold(book) && !isTouched(book)) {
            answer = reader.faultFor(books[book].pages);
            if (answer == 0) {
                books[book].changeDraw(reader.draft);
                forgetMarks();
            }
        }
        reader.tape.length = 0;
        return answer;
    }

    public int leaflet(int book, int x, int what) {
        if (!isLeaflet(book, x)) {
            return NONE;
        }
        Book of = books[book];
        int pages = of.pagesOf(x);
        switch (what) {
            case 0:
                return pages;
            case 1:
                return of.sumOf(pages);
            case 2:
                return of.sealOf(x, of.sumOf(pages));
            case 3:
                return Integer.bitCount(pages);
            default:
                return NONE;
        }
    }

    public int told(int book, int page) {
        if (!isPageOf(book, page)) {
            return NONE;
        }
        return books[book].sumOf(1 << page);
    }

    // ---- papers

    public int comes(int quarter, int book, int x, int bytes) {
        if (!isQuarter(quarter) || !isLeaflet(book, x) || bytes < 1 || bytes > BOTH) {
            return NONE;
        }
        return heaps[quarter].put(books[book].leafletPaper(x, bytes));
    }

    public int slip(int quarter, int book, int x, int error) {
        if (!isQuarter(quarter) || !isLeaflet(book, x) || error < 1 || error > MOST_VALUE) {
            return NONE;
        }
        Book of = books[book];
        int sum = of.sumOf(of.pagesOf(x));
        return send(quarter, of, x, sum ^ error, of.sealOf(x, sum));
    }

    public int forged(int quarter, int book, int x, int sum, int seal) {
        if (!isQuarter(quarter) || !isLeaflet(book, x)) {
            return NONE;
        }
        if (sum < 0 || sum > MOST_VALUE || seal < 0 || seal >= SEALS) {
            return NONE;
        }
        return send(quarter, books[book], x, sum, seal);
    }

    public int nameless(int quarter, int x, int sum) {
        if (!isQuarter(quarter) || !isNumber(x) || sum < 0 || sum > MOST_VALUE) {
            return NONE;
        }
        int pages0 = books[0].told ? books[0].pagesOf(x) : 0;
        int pages1 = books[1].told ? books[1].pagesOf(x) : 0;
        return heaps[quarter].put(new Paper(NONE, x, sum, BOTH, 0, pages0, pages1));
    }

    public int paper(int quarter, int place, int what) throws NoSuchElementException {
        Paper paper = paperAt(quarter, place);
        if (paper == null) {
            throw new NoSuchElementException();
        }
        switch (what) {
            case 0:
                return paper.book;
            case 1:
                return paper.number;
            case 2:
                return paper.sum;
            case 3:
                return paper.bytes;
            case 4:
                return paper.seal;
            case 5:
                return paper.book == NONE ? NONE : unknownPages(quarter, paper);
            default:
                throw new NoSuchElementException();
        }
    }

    public boolean away(int quarter, int place) {
        if (paperAt(quarter, place) == null) {
            return false;
        }
        heaps[quarter].drop(place);
        return true;
    }

    // ---- reading

    public int peels(int quarter, int book, int octet, int what) {
        if (!isQuarter(quarter) || !isTold(book) || !isOctet(octet)) {
            return NONE;
        }
        Equations all = gather(quarter, book, octet);
        int known = all.peel();
        switch (what) {
            case 0:
                return known;
            case 1:
                return all.quarrels(known);
            case 2:
                return all.work(known);
            case 3:
                return all.left(known);
            default:
                return NONE;
        }
    }

    public int solves(int quarter, int book, int octet, int what) {
        if (!isQuarter(quarter) || !isTold(book) || !isOctet(octet)) {
            return NONE;
        }
        int all = books[book].all();
        Basis basis = bases[0];
        basis.take(gather(quarter, book, octet), NONE);
        switch (what) {
            case 0:
                return basis.fixedPages(all);
            case 1:
                return basis.agrees ? 1 : 0;
            case 2:
                return basis.rank;
            case 3:
                return all - basis.rank;
            default:
                return NONE;
        }
    }

    public int read(int quarter, int book, int page, int how) {
        if (!isQuarter(quarter) || !isPageOf(book, page) || !isHow(how)) {
            return NONE;
        }
        int low = readOctet(quarter, book, 0, page, how);
        int high = readOctet(quarter, book, 1, page, how);
        return low == NONE || high == NONE ? NONE : low | high << 8;
    }

    public int soon(int quarter, int book, int page, int how) {
        if (!isQuarter(quarter) || !isPageOf(book, page) || !isHow(how)) {
            return NONE;
        }
        return how == PEELING ? soonPeeled(quarter, book, page) : soonSolved(quarter, book, page);
    }

    public int slipped(int quarter, int book, int octet, int what) {
        if (!isQuarter(quarter) || !isTold(book) || !isOctet(octet) || what < 0 || what > 2) {
            return NONE;
        }
        Equations all = gather(quarter, book, octet);
        Basis basis = bases[0];
        basis.take(all, NONE);
        if (basis.agrees) {
            return NONE;
        }
        int suspects = 0;
        int first = NONE;
        for (int i = all.hidden; i < all.size; i++) {
            basis.take(all, i);
            if (basis.agrees) {
                first = suspects == 0 ? all.place[i] : first;
                suspects++;
            }
        }
        if (what == 1) {
            return first;
        }
        return what == 0 ? suspects : suspects == 1 ? 1 : 0;
    }

    public int right(int quarter, int book, int octet, int page) {
        if (!isQuarter(quarter) || !isPageOf(book, page) || !isOctet(octet)) {
            return NONE;
        }
        Equations all = gather(quarter, book, octet);
        Basis basis = bases[0];
        basis.take(all, NONE);
        if (basis.agrees) {
            return NONE;
        }
        int answer = NONE;
        for (int i = all.hidden; i < all.size; i++) {
            basis.take(all, i);
            if (basis.agrees) {
                int octetRead = basis.octetOf(page);
                if (octetRead == NONE || answer != NONE && answer != octetRead) {
                    return NONE;
                }
                answer = octetRead;
            }
        }
        return answer;
    }

    public int doubles(int quarter, int book, int octet) {
        if (!isQuarter(quarter) || !isTold(book) || !isOctet(octet)) {
            return NONE;
        }
        Equations all = gather(quarter, book, octet);
        Basis basis = bases[0];
        basis.take(all, NONE);
        int rank = basis.rank;
        int found = 0;
        for (int i = all.hidden; i < all.size; i++) {
            basis.take(all, i);
            if (basis.rank == rank) {
                found++;
            }
        }
        return found;
    }

    public int guard(int quarter, int book, int octet, int page) {
        if (!isQuarter(quarter) || !isPageOf(book, page) || !isOctet(octet)) {
            return NONE;
        }
        Equations all = gather(quarter, book, octet);
        Basis basis = bases[0];
        basis.take(all, NONE);
        if (basis.octetOf(page) == NONE) {
            return NONE;
        }
        int least = all.fewestGuarding(books[book], page);
        return least >= 1 && least <= MOST_GUARD ? least : NONE;
    }

    public int tocome(int quarter, int book, int what) {
        if (!isQuarter(quarter) || !isTold(book) || what < 0 || what > 1) {
            return NONE;
        }
        Equations low = gather(quarter, book, 0);
        Equations high = gather(quarter, book, 1);
        if (!coming.find(books[book], low, high)) {
            return NONE;
        }
        return what == 0 ? coming.least : coming.found;
    }

    // ---- chances

    public int chances(int book, int m, int k, int how) {
        if (!isTold(book) || !isSetSize(m, k) || !isHow(how)) {
            return NONE;
        }
        sets.tally(books[book], m, how, 0);
        return sets.giving[k];
    }

    public int enough(int book, int m, int how, boolean half) {
        if (!isTold(book) || !isSetSize(m, 0) || !isHow(how)) {
            return NONE;
        }
        sets.tally(books[book], m, how, 0);
        for (int k = 0; k <= m; k++) {
            int all = choose(m, k);
            int giving = sets.giving[k];
            if (half ? 2 * giving >= all : giving >= all) {
                return k;
            }
        }
        return NONE;
    }

    public long average(int book, int m, int how, int what) {
        if (!isTold(book) || !isSetSize(m, 0) || !isHow(how) || what < 0 || what > 1) {
            return NONE;
        }
        sets.tally(books[book], m, how, 0);
        if (sets.giving[m] == 0) {
            return NONE;
        }
        // The mean of how many must come is the sum, over k, of the chance that k do not give all.
        long above = 0;
        long below = 1;
        for (int k = 0; k < m; k++) {
            long all = choose(m, k);
            above = above * all + below * (all - sets.giving[k]);
            below = below * all;
            long common = commonDivisor(above, below);
            if (common > 1) {
                above /= common;
                below /= common;
            }
        }
        return what == 0 ? above : below;
    }

    public int degree(int book, int m, int k, int how) {
        if (!isTold(book) || !isSetSize(m, k) || !isHow(how)) {
            return NONE;
        }
        Book of = books[book];
        int best = 1;
        int most = 0;
        // Fewer leaflets than PAGES never give all, so every degree is as good as the least.
        int last = k < of.pages ? 0 : of.all();
        for (int d = 1; d <= last; d++) {
            sets.tally(of, m, how, d);
            if (sets.giving[k] > most) {
                most = sets.giving[k];
                best = d;
            }
        }
        return best;
    }

    // ---- papers without a name

    public int apart(int quarter, int place) {
        Paper paper = paperAt(quarter, place);
        if (paper == null || paper.book != NONE || !isTold(0) || !isTold(1)) {
            return NONE;
        }
        for (int b = 0; b < BOOKS; b++) {
            for (int o = 0; o < OCTETS; o++) {
                ways.basisOf(b, o).take(gather(quarter, b, o), NONE);
            }
        }
        ways.findAll(heaps[quarter]);
        return ways.bookAt(place);
    }

    // ---- the town

    public boolean quarter(int quarter, int burn, int houses) {
        if (!isQuarter(quarter) || burn < 0 || burn > 100 || houses < 0 || houses > MOST_HOUSES) {
            return false;
        }
        burns[quarter] = burn;
        this.houses[quarter] = houses;
        return true;
    }

    public int scatter(int book, int from, int to) {
        if (!isLeaflet(book, from) || !isNumber(to) || to < from || to - from >= MOST_SCATTERED) {
            return NONE;
        }
        int came = 0;
        for (int x = from; x <= to; x++) {
            if (isRoomAnywhere()) {
                came += throwOne(books[book], x);
            }
        }
        return came;
    }

    public int needs(int quarter, int book) {
        if (!isQuarter(quarter) || !isTold(book)) {
            return NONE;
        }
        return neededIn(quarter, books[book]);
    }

    public int town(int book, int share) {
        if (!isTold(book) || share < 0 || share > 100) {
            return NONE;
        }
        for (int q = 0; q < QUARTERS; q++) {
            needed[q] = neededIn(q, books[book]);
        }
        int due = share * allHouses();
        for (int m = 0; m <= MOST_THROWN; m++) {
            if (100 * housesServed(m) >= due) {
                return m;
            }
        }
        return NONE;
    }

    public int swap(int from, int to, int k) {
        if (!isQuarter(from) || !isQuarter(to) || from == to || k < 0 || k > HEAP_ROOM) {
            return NONE;
        }
        Heap giver = heaps[from];
        Heap taker = heaps[to];
        int got = 0;
        for (int i = 0; i < giver.size && got < k; i++) {
            Paper paper = giver.at(i);
            if (paper != null && !taker.hasAlike(paper) && taker.put(paper) != NONE) {
                got++;
            }
        }
        return got;
    }

    public boolean mark(int mark, boolean back) {
        if (mark < 0 || mark >= MARKS || back && !marked[mark]) {
            return false;
        }
        for (int q = 0; q < QUARTERS; q++) {
            Heap held = kept[mark * QUARTERS + q];
            if (back) {
                heaps[q].copy(held);
            } else {
                held.copy(heaps[q]);
            }
        }
        marked[mark] = true;
        return true;
    }

    public int count(int what) {
        if (isQuarter(what)) {
            return heaps[what].size;
        }
        switch (what) {
            case 4:
                return books[0].all();
            case 5:
                return books[1].all();
            case 6:
                return reader.tape.length;
            case 7:
                return thrownOut;
            case 8:
                return allHouses();
            default:
                return NONE;
        }
    }

    // ---- what is such a thing

    private static boolean isBook(int book) {
        return book >= 0 && book < BOOKS;
    }

    private static boolean isQuarter(int quarter) {
        return quarter >= 0 && quarter < QUARTERS;
    }

    private static boolean isOctet(int octet) {
        return octet >= 0 && octet < OCTETS;
    }

    private static boolean isNumber(int x) {
        return x >= 0 && x <= MOST_NUMBER;
    }

    private static boolean isHow(int how) {
        return how == PEELING || how == SOLVING;
    }

    private static boolean isSetSize(int m, int k) {
        return m >= 1 && m <= MOST_IN_SET && k >= 0 && k <= m;
    }

    private boolean isTold(int book) {
        return isBook(book) && books[book].told;
    }

    private boolean isLeaflet(int book, int x) {
        return isTold(book) && isNumber(x);
    }

    private boolean isPageOf(int book, int page) {
        return isTold(book) && page >= 0 && page < books[book].all();
    }

    private boolean isTouched(int book) {
        for (int q = 0; q < QUARTERS; q++) {
            if (heaps[q].touches(book)) {
                return true;
            }
        }
        return false;
    }

    // ---- helpers of papers and heaps

    private Paper paperAt(int quarter, int place) {
        return isQuarter(quarter) ? heaps[quarter].at(place) : null;
    }

    // A false seal is seen before it is seen whether there is room: thrown out "at once".
    private int send(int quarter, Book of, int x, int sum, int seal) {
        if (of.draw.seal != 0 && seal != of.sealOf(x, sum)) {
            thrownOut++;
            return NONE;
        }
        return heaps[quarter].put(of.paperOf(x, of.pagesOf(x), sum, BOTH, seal));
    }

    private void forgetMarks() {
        for (int i = 0; i < MARKS; i++) {
            marked[i] = false;
        }
    }

    private int unknownPages(int quarter, Paper paper) {
        int known = PAGE_BITS;
        for (int o = 0; o < OCTETS; o++) {
            if (paper.hasOctet(o)) {
                known &= gather(quarter, paper.book, o).peel();
            }
        }
        return Integer.bitCount(paper.pagesBy(paper.book) & ~known);
    }

    // ---- helpers of reading

    private Equations gather(int quarter, int book, int octet) {
        Equations all = equations[octet];
        all.startWith(books[book]);
        Heap heap = heaps[quarter];
        for (int i = 0; i < heap.size; i++) {
            Paper paper = heap.at(i);
            if (paper != null && paper.book == book && paper.hasOctet(octet)) {
                all.add(paper.equation(book, octet), i);
            }
        }
        return all;
    }

    private int readOctet(int quarter, int book, int octet, int page, int how) {
        Equations all = gather(quarter, book, octet);
        if (how == PEELING) {
            int known = all.peel();
            return (known >> page & 1) != 0 ? all.read[page] : NONE;
        }
        Basis basis = bases[0];
        basis.take(all, NONE);
        return basis.octetOf(page);
    }

    // Which pages peeling knows does not hang on the order, so what is known stays as papers are added.
    private int soonPeeled(int quarter, int book, int page) {
        Heap heap = heaps[quarter];
        int known0 = 0;
        int known1 = 0;
        equations[0].startWith(books[book]);
        equations[1].startWith(books[book]);
        for (int i = 0; i < heap.size; i++) {
            Paper paper = heap.at(i);
            if (paper != null && paper.book == book) {
                known0 = spreadWith(paper, 0, i, known0);
                known1 = spreadWith(paper, 1, i, known1);
                if ((known0 & known1 & 1 << page) != 0) {
                    return i + 1;
                }
            }
        }
        return NONE;
    }

    private int spreadWith(Paper paper, int octet, int place, int known) {
        if (!paper.hasOctet(octet)) {
            return known;
        }
        equations[octet].add(paper.equation(paper.book, octet), place);
        return equations[octet].spread(known);
    }

    private int soonSolved(int quarter, int book, int page) {
        Heap heap = heaps[quarter];
        for (int o = 0; o < OCTETS; o++) {
            equations[o].startWith(books[book]);
            bases[o].take(equations[o], NONE);
        }
        for (int i = 0; i < heap.size; i++) {
            Paper paper = heap.at(i);
            if (paper != null && paper.book == book) {
                for (int o = 0; o < OCTETS; o++) {
                    if (paper.hasOctet(o)) {
                        bases[o].add(paper.equation(book, o));
                    }
                }
                if (bases[0].octetOf(page) != NONE && bases[1].octetOf(page) != NONE) {
                    return i + 1;
                }
            }
        }
        return NONE;
    }

    // ---- helpers of the town

    private boolean falls(Book book, int x, int quarter) {
        return (x * 37 + 11 * book.index + 101 * quarter + 13) * 7 % 100 >= burns[quarter];
    }

    private boolean isRoomAnywhere() {
        for (int q = 0; q < QUARTERS; q++) {
            if (heaps[q].size < HEAP_ROOM) {
                return true;
            }
        }
        return false;
    }

    private int throwOne(Book book, int x) {
        Paper paper = book.leafletPaper(x, BOTH);
        int came = 0;
        for (int q = 0; q < QUARTERS; q++) {
            if (falls(book, x, q) && !heaps[q].hasAlike(paper) && heaps[q].put(paper) != NONE) {
                came++;
            }
        }
        return came;
    }

    private int neededIn(int quarter, Book book) {
        Basis basis = bases[0];
        equations[0].startWith(book);
        basis.take(equations[0], NONE);
        int all = book.all();
        for (int m = 0; m < MOST_THROWN; m++) {
            if (basis.rank >= all) {
                return m;
            }
            if (falls(book, m, quarter)) {
                basis.add(book.pagesOf(m));
            }
        }
        return basis.rank >= all ? MOST_THROWN : NONE;
    }

    private int allHouses() {
        int all = 0;
        for (int q = 0; q < QUARTERS; q++) {
            all += houses[q];
        }
        return all;
    }

    private int housesServed(int m) {
        int served = 0;
        for (int q = 0; q < QUARTERS; q++) {
            if (needed[q] != NONE && needed[q] <= m) {
                served += houses[q];
            }
        }
        return served;
    }

    // ---- helpers of counting

    private static int choose(int n, int k) {
        int product = 1;
        for (int i = 1; i <= k; i++) {
            product = product * (n - k + i) / i;
        }
        return product;
    }

    private static long commonDivisor(long a, long b) {
        long larger = a;
        long smaller = b;
        for (int i = 0; i < 100 && smaller != 0; i++) {
            long rest = larger % smaller;
            larger = smaller;
            smaller = rest;
        }
        return larger;
    }

    /** What a text of odds tells. */
    private static final class Draw {
        final int[] odds = new int[MOST_ALL + 1];
        final int[] sum = new int[MOST_SUMS];
        int sums;
        int firstBelow;
        int firstWeight;
        int seal;

        Draw() {
            clear();
        }

        void clear() {
            for (int d = 0; d <= MOST_ALL; d++) {
                odds[d] = NONE;
            }
            sums = 0;
            firstBelow = 0;
            firstWeight = 0;
            seal = 0;
        }

        void copy(Draw other) {
            System.arraycopy(other.odds, 0, odds, 0, MOST_ALL + 1);
            System.arraycopy(other.sum, 0, sum, 0, MOST_SUMS);
            sums = other.sums;
            firstBelow = other.firstBelow;
            firstWeight = other.firstWeight;
            seal = other.seal;
        }

        int oddsOf(int d) {
            return d >= 1 && d <= MOST_ALL && odds[d] > 0 ? odds[d] : 0;
        }
    }

    /** A book with its draw; sets of pages are bits, the hidden ones behind the told ones. */
    private static final class Book {
        final int index;
        final int[] value = new int[MOST_PAGES];
        final Draw draw = new Draw();
        // The pages of the first numbers, 0 where they have not been drawn yet.
        final int[] drawn = new int[MOST_THROWN];
        boolean told;
        int pages;
        int dice;

        Book(int index) {
            this.index = index;
        }

        void tell(int n) {
            told = true;
            pages = n;
            for (int p = 0; p < MOST_PAGES; p++) {
                value[p] = 0;
            }
            draw.clear();
            forgetDrawn();
        }

        void changeDraw(Draw other) {
            draw.copy(other);
            forgetDrawn();
        }

        private void forgetDrawn() {
            for (int x = 0; x < MOST_THROWN; x++) {
                drawn[x] = 0;
            }
        }

        int all() {
            return told ? pages + draw.sums : 0;
        }

        int allBits() {
            return (1 << all()) - 1;
        }

        /** The same sum told by PAGES alone. */
        int withoutHidden(int bits) {
            int plain = bits & (1 << pages) - 1;
            for (int s = 0; s < draw.sums; s++) {
                if ((bits >> pages + s & 1) != 0) {
                    plain ^= draw.sum[s];
                }
            }
            return plain;
        }

        int sumOf(int bits) {
            int plain = withoutHidden(bits);
            int sum = 0;
            for (int p = 0; p < pages; p++) {
                if ((plain >> p & 1) != 0) {
                    sum ^= value[p];
                }
            }
            return sum;
        }

        int sealOf(int x, int sum) {
            return draw.seal == 0 ? 0 : ((x + 1) * draw.seal + 31 * sum) % SEALS;
        }

        int pagesOf(int x) {
            if (x < 0 || x >= MOST_THROWN) {
                return drawPages(x, 0);
            }
            if (drawn[x] == 0) {
                drawn[x] = drawPages(x, 0);
            }
            return drawn[x];
        }

        /** The pages of a number; with a degree above 0 as if that one alone had odds. */
        int drawPages(int x, int degree) {
            dice = x * 7919 + index * 104729 + 1;
            int all = all();
            int many = degree > 0 ? castDegree(degree) : howMany(all);
            int weights = 0;
            for (int p = 0; p < all; p++) {
                weights += weightOf(p);
            }
            int bits = 0;
            for (int i = 0; i < many; i++) {
                int p = pickBeside(bits, all, cast(weights));
                bits |= 1 << p;
                weights -= weightOf(p);
            }
            return bits;
        }

        private int cast(int bound) {
            dice = dice * 1103515245 + 12345 & 0x7fffffff;
            return bound > 0 ? (dice >> 16) % bound : 0;
        }

        // One odd alone is drawn for as well, though it can come out in one way only.
        private int castDegree(int degree) {
            cast(1);
            return degree;
        }

        private int howMany(int all) {
            int total = 0;
            for (int d = 1; d <= all; d++) {
                total += draw.oddsOf(d);
            }
            if (total == 0) {
                return 1;
            }
            int r = cast(total);
            int upTo = 0;
            for (int d = 1; d <= all; d++) {
                upTo += draw.oddsOf(d);
                if (upTo > r) {
                    return d;
                }
            }
            return 1;
        }

        private int weightOf(int page) {
            return page < pages && page < draw.firstBelow ? draw.firstWeight : 1;
        }

        private int pickBeside(int bits, int all, int r) {
            int upTo = 0;
            for (int p = 0; p < all; p++) {
                if ((bits >> p & 1) == 0) {
                    upTo += weightOf(p);
                    if (upTo > r) {
                        return p;
                    }
                }
            }
            return 0;
        }

        Paper leafletPaper(int x, int bytes) {
            int bits = pagesOf(x);
            int sum = sumOf(bits);
            int there = (bytes & 1) * 255 | (bytes >> 1 & 1) * 65280;
            return paperOf(x, bits, sum & there, bytes, sealOf(x, sum));
        }

        Paper paperOf(int x, int bits, int sum, int bytes, int seal) {
            return new Paper(index, x, sum, bytes, seal, index == 0 ? bits : 0, index == 1 ? bits : 0);
        }
    }

    /** The signs that were fed and not read yet, and the token that is looked at. */
    private static final class Tape {
        static final int END = 0;
        static final int WORD = 1;
        static final int NUMBER = 2;
        static final int SEMICOLON = 3;
        static final int NO_TOKEN = 4;
        private static final int MOST_LETTERS = 8;
        private static final int MOST_DIGITS = 4;

        final int[] sign = new int[TAPE_ROOM];
        int length;
        int kind;
        int start;
        int past;
        int number;

        void takeEight(long signs) {
            for (int shift = 56; shift >= 0; shift -= 8) {
                int next = (int) (signs >>> shift) & 255;
                if ((next == 10 || next >= 32 && next <= 126) && length < TAPE_ROOM) {
                    sign[length] = next;
                    length++;
                }
            }
        }

        void rewind() {
            past = 0;
        }

        void next() {
            while (past < length && (sign[past] == 10 || sign[past] == 32)) {
                past++;
            }
            start = past;
            if (start >= length) {
                kind = END;
                return;
            }
            int first = sign[start];
            if (first >= 'a' && first <= 'z') {
                takeRun('a', 'z');
                kind = past - start <= MOST_LETTERS ? WORD : NO_TOKEN;
            } else if (first >= '0' && first <= '9') {
                takeRun('0', '9');
                kind = past - start <= MOST_DIGITS ? NUMBER : NO_TOKEN;
                number = kind == NUMBER ? numberHere() : NONE;
            } else {
                past++;
                kind = first == ';' ? SEMICOLON : NO_TOKEN;
            }
        }

        private void takeRun(int least, int most) {
            while (past < length && sign[past] >= least && sign[past] <= most) {
                past++;
            }
        }

        private int numberHere() {
            int value = 0;
            for (int i = start; i < past; i++) {
                value = value * 10 + sign[i] - '0';
            }
            return value;
        }

        boolean isWord(String word) {
            if (kind != WORD || past - start != word.length()) {
                return false;
            }
            for (int i = 0; i < word.length(); i++) {
                if (sign[start + i] != word.charAt(i)) {
                    return false;
                }
            }
            return true;
        }
    }

    /** Reads the tape into a draft of a draw; the first wrong token is its fault, 0 is none. */
    private static final class DrawReader {
        private static final int MISPLACED = 1;
        private static final int AGAIN = 3;
        private static final int NOT_AS_TOLD = 4;
        private static final int TOO_MANY = 5;

        final Tape tape = new Tape();
        final Draw draft = new Draw();

        int faultFor(int pages) {
            draft.clear();
            tape.rewind();
            for (int i = 0; i <= TAPE_ROOM; i++) {
                tape.next();
                if (tape.kind == Tape.END) {
                    return 0;
                }
                int fault = statementFault(pages);
                if (fault != 0) {
                    return fault;
                }
            }
            return 0;
        }

        private int statementFault(int pages) {
            if (tape.isWord("odds")) {
                return oddsFault();
            }
            if (tape.isWord("first")) {
                return draft.firstBelow != 0 ? wrong(AGAIN) : firstFault();
            }
            if (tape.isWord("sum")) {
                return draft.sums >= MOST_SUMS ? wrong(TOO_MANY) : sumFault(pages);
            }
            if (tape.isWord("seal")) {
                return draft.seal != 0 ? wrong(AGAIN) : sealFault();
            }
            return wrong(MISPLACED);
        }

        private int oddsFault() {
            int fault = numberFault(1, MOST_ALL);
            if (fault != 0) {
                return fault;
            }
            int d = tape.number;
            if (draft.odds[d] != NONE) {
                return wrong(AGAIN);
            }
            fault = numberFault(0, MOST_ODDS);
            if (fault != 0) {
                return fault;
            }
            draft.odds[d] = tape.number;
            return endFault();
        }

        private int firstFault() {
            int fault = numberFault(1, MOST_PAGES);
            if (fault != 0) {
                return fault;
            }
            draft.firstBelow = tape.number;
            fault = numberFault(2, 9);
            if (fault != 0) {
                return fault;
            }
            draft.firstWeight = tape.number;
            return endFault();
        }

        private int sealFault() {
            int fault = numberFault(1, SEALS - 1);
            if (fault != 0) {
                return fault;
            }
            draft.seal = tape.number;
            return endFault();
        }

        private int sumFault(int pages) {
            int bits = 0;
            // More numbers than pages can't come: one of them is told again or is no page.
            for (int i = 0; i <= MOST_PAGES; i++) {
                tape.next();
                if (tape.kind == Tape.SEMICOLON && i >= 2) {
                    draft.sum[draft.sums] = bits;
                    draft.sums++;
                    return 0;
                }
                if (tape.kind != Tape.NUMBER) {
                    return wrong(MISPLACED);
                }
                if (tape.number >= pages) {
                    return wrong(NOT_AS_TOLD);
                }
                if ((bits >> tape.number & 1) != 0) {
                    return wrong(AGAIN);
                }
                bits |= 1 << tape.number;
            }
            return wrong(MISPLACED);
        }

        private int numberFault(int least, int most) {
            tape.next();
            if (tape.kind != Tape.NUMBER) {
                return wrong(MISPLACED);
            }
            return tape.number < least || tape.number > most ? wrong(NOT_AS_TOLD) : 0;
        }

        private int endFault() {
            tape.next();
            return tape.kind == Tape.SEMICOLON ? 0 : wrong(MISPLACED);
        }

        private int wrong(int fault) {
            return fault + 16 * tape.start;
        }
    }

    /** A paper never changes, so heaps and marks share it; the pages of its number are drawn as it is made. */
    private static final class Paper {
        final int book;
        final int number;
        final int sum;
        final int bytes;
        final int seal;
        final int pages0;
        final int pages1;

        Paper(int book, int number, int sum, int bytes, int seal, int pages0, int pages1) {
            this.book = book;
            this.number = number;
            this.sum = sum;
            this.bytes = bytes;
            this.seal = seal;
            this.pages0 = pages0;
            this.pages1 = pages1;
        }

        int pagesBy(int ofBook) {
            return ofBook == 0 ? pages0 : pages1;
        }

        boolean hasOctet(int octet) {
            return (bytes >> octet & 1) != 0;
        }

        int equation(int ofBook, int octet) {
            return pagesBy(ofBook) | (sum >> 8 * octet & 255) << MOST_ALL;
        }

        boolean isAlike(Paper other) {
            return book == other.book && number == other.number && sum == other.sum
                && bytes == other.bytes && seal == other.seal;
        }
    }

    private static final class Heap {
        final Paper[] papers = new Paper[HEAP_ROOM];
        int size;

        Paper at(int place) {
            return place >= 0 && place < size && place < HEAP_ROOM ? papers[place] : null;
        }

        /** The place that it gets, NONE if there is no room for it. */
        int put(Paper paper) {
            if (size >= HEAP_ROOM || paper.book == NONE && unnamed() >= NAMELESS_ROOM) {
                return NONE;
            }
            papers[size] = paper;
            size++;
            return size - 1;
        }

        private int unnamed() {
            int found = 0;
            for (int i = 0; i < size; i++) {
                Paper paper = papers[i];
                if (paper != null && paper.book == NONE) {
                    found++;
                }
            }
            return found;
        }

        boolean hasAlike(Paper paper) {
            for (int i = 0; i < size; i++) {
                Paper mine = papers[i];
                if (mine != null && mine.isAlike(paper)) {
                    return true;
                }
            }
            return false;
        }

        /** Whether it holds a paper of the book or one without a name. */
        boolean touches(int book) {
            for (int i = 0; i < size; i++) {
                if (isTouching(papers[i], book)) {
                    return true;
                }
            }
            return false;
        }

        private static boolean isTouching(Paper paper, int book) {
            return paper != null && (paper.book == book || paper.book == NONE);
        }

        void drop(int place) {
            if (place < 0 || place >= size) {
                return;
            }
            for (int i = place + 1; i < size; i++) {
                papers[i - 1] = papers[i];
            }
            size--;
        }

        void dropTouching(int book) {
            int left = 0;
            for (int i = 0; i < size; i++) {
                if (!isTouching(papers[i], book)) {
                    papers[left] = papers[i];
                    left++;
                }
            }
            size = left;
        }

        void copy(Heap other) {
            for (int i = 0; i < other.size; i++) {
                papers[i] = other.papers[i];
            }
            size = other.size;
        }
    }

    /** The equations of one byte, each one int: its pages in the low 20 bits, what they come to above. */
    private static final class Equations {
        final int[] row = new int[MOST_EQUATIONS];
        final int[] place = new int[MOST_EQUATIONS];
        final int[] read = new int[MOST_ALL];
        final long[] touched = new long[MOST_PAGES];
        int size;
        int hidden;

        void startWith(Book book) {
            size = 0;
            for (int s = 0; s < book.draw.sums; s++) {
                add(book.draw.sum[s] | 1 << book.pages + s, NONE);
            }
            hidden = size;
        }

        void add(int equation, int ofPlace) {
            if (size < MOST_EQUATIONS) {
                row[size] = equation;
                place[size] = ofPlace;
                size++;
            }
        }

        void cut(int newSize) {
            size = newSize >= 0 && newSize < size ? newSize : size;
        }

        private int unknownOf(int i, int known) {
            return row[i] & PAGE_BITS & ~known;
        }

        /** The known pages in the end, without their bytes. */
        int spread(int known) {
            int now = known;
            for (int round = 0; round <= MOST_ALL; round++) {
                int before = now;
                for (int i = 0; i < size; i++) {
                    int unknown = unknownOf(i, now);
                    if ((unknown & unknown - 1) == 0) {
                        now |= unknown;
                    }
                }
                if (now == before) {
                    return now;
                }
            }
            return now;
        }

        /** The known pages in the end; read[] has their bytes. */
        int peel() {
            int known = 0;
            for (int round = 0; round <= MOST_ALL; round++) {
                int i = firstWithOneUnknown(known);
                if (i == NONE) {
                    return known;
                }
                int page = unknownOf(i, known);
                int p = lowestPlace(page);
                if (p < MOST_ALL) {
                    read[p] = restOf(i, known);
                }
                known |= page;
            }
            return known;
        }

        private int firstWithOneUnknown(int known) {
            for (int i = 0; i < size; i++) {
                int unknown = unknownOf(i, known);
                if (unknown != 0 && (unknown & unknown - 1) == 0) {
                    return i;
                }
            }
            return NONE;
        }

        /** What an equation tells less the bytes of its known pages. */
        private int restOf(int i, int known) {
            int rest = row[i] >>> MOST_ALL;
            int pages = row[i] & PAGE_BITS & known;
            for (int p = 0; p < MOST_ALL; p++) {
                if ((pages >> p & 1) != 0) {
                    rest ^= read[p];
                }
            }
            return rest;
        }

        int quarrels(int known) {
            int found = 0;
            for (int i = 0; i < size; i++) {
                if (unknownOf(i, known) == 0 && restOf(i, known) != 0) {
                    found++;
                }
            }
            return found;
        }

        int work(int known) {
            int found = -Integer.bitCount(known);
            for (int i = 0; i < size; i++) {
                found += Integer.bitCount(row[i] & PAGE_BITS & known);
            }
            return found;
        }

        int left(int known) {
            int found = 0;
            for (int i = 0; i < size; i++) {
                int unknown = unknownOf(i, known);
                if ((unknown & unknown - 1) != 0) {
                    found++;
                }
            }
            return found;
        }

        /**
         * A page is not fixed without some papers just if PAGES can be changed so that it changes and no
         * other paper's sum does: the fewest papers that any such change touches.
         */
        int fewestGuarding(Book book, int page) {
            touchPapers(book);
            int target = book.withoutHidden(1 << page);
            int lead = lowestPlace(target);
            int last = book.pages - 1;
            if (lead > last || last >= MOST_PAGES) {
                return NONE;
            }
            // The leading page makes up for what the others change, so that the page always changes.
            long papers = touched[lead];
            for (int p = 0; p <= last; p++) {
                if (p != lead && (target >> p & 1) != 0) {
                    touched[p] ^= papers;
                }
            }
            touched[lead] = touched[last];
            return fewestTouched(papers, last);
        }

        private void touchPapers(Book book) {
            for (int p = 0; p < MOST_PAGES; p++) {
                touched[p] = 0;
            }
            for (int i = hidden; i < size; i++) {
                int plain = book.withoutHidden(row[i] & PAGE_BITS);
                for (int p = 0; p < book.pages; p++) {
                    if ((plain >> p & 1) != 0) {
                        touched[p] |= 1L << i - hidden;
                    }
                }
            }
        }

        // Each step changes one page more or less, in the order that comes by all sets of them.
        private int fewestTouched(long start, int others) {
            long papers = start;
            int fewest = Long.bitCount(papers);
            for (int i = 1; i < 1 << others && fewest > 1; i++) {
                papers ^= touched[lowestPlace(i)];
                fewest = Math.min(fewest, Long.bitCount(papers));
            }
            return fewest;
        }
    }

    /** Place of the lowest bit that is set. */
    private static int lowestPlace(int bits) {
        return Integer.bitCount((bits & -bits) - 1);
    }

    /** Equations of which none follows from others; each lacks the leading pages of those ahead of it. */
    private static final class Basis {
        final int[] row = new int[MOST_ALL];
        final int[] lead = new int[MOST_ALL];
        int rank;
        boolean agrees;

        /** All equations but the one at skip. */
        void take(Equations all, int skip) {
            rank = 0;
            agrees = true;
            for (int i = 0; i < all.size; i++) {
                if (i != skip) {
                    add(all.row[i]);
                }
            }
        }

        void add(int equation) {
            int rest = reduce(equation);
            int pages = rest & PAGE_BITS;
            if (pages == 0) {
                agrees = agrees && rest == 0;
            } else if (rank < MOST_ALL) {
                row[rank] = rest;
                lead[rank] = pages & -pages;
                rank++;
            }
        }

        /** Back to an earlier rank, at which all agreed. */
        void cut(int newRank) {
            rank = newRank >= 0 && newRank < rank ? newRank : rank;
            agrees = true;
        }

        private int reduce(int equation) {
            int rest = equation;
            for (int i = 0; i < rank; i++) {
                if ((rest & lead[i]) != 0) {
                    rest ^= row[i];
                }
            }
            return rest;
        }

        /** The byte of a page that is fixed, else NONE. */
        int octetOf(int page) {
            int rest = reduce(1 << page);
            return agrees && (rest & PAGE_BITS) == 0 ? rest >>> MOST_ALL : NONE;
        }

        int fixedPages(int all) {
            int fixed = 0;
            for (int p = 0; p < all; p++) {
                if (octetOf(p) != NONE) {
                    fixed |= 1 << p;
                }
            }
            return fixed;
        }
    }

    /** How many of the sets of the first m leaflets give all pages, by their size. */
    private static final class Sets {
        final int[] giving = new int[MOST_IN_SET + 1];
        final int[] leaflets = new int[MOST_IN_SET];
        final Equations chosen = new Equations();
        final Basis basis = new Basis();
        int m;
        int how;
        int all;
        int allBits;

        void tally(Book book, int ofFirst, int byHow, int degree) {
            m = Math.min(ofFirst, MOST_IN_SET);
            how = byHow;
            all = book.all();
            allBits = book.allBits();
            for (int i = 0; i <= MOST_IN_SET; i++) {
                giving[i] = 0;
            }
            for (int x = 0; x < m; x++) {
                leaflets[x] = degree > 0 ? book.drawPages(x, degree) : book.pagesOf(x);
            }
            chosen.startWith(book);
            basis.take(chosen, NONE);
            walk(0, 0, 0);
        }

        // Leaflets below x are in the set or not; what is known by peeling grows with it.
        private void walk(int x, int size, int known) {
            if (how == PEELING ? known == allBits : basis.rank == all) {
                addAllWith(m - x, size);
                return;
            }
            if (x >= m || x >= MOST_IN_SET || basis.rank + m - x < all) {
                return;
            }
            walk(x + 1, size, known);
            int rank = basis.rank;
            int equations = chosen.size;
            basis.add(leaflets[x]);
            chosen.add(leaflets[x], x);
            walk(x + 1, size + 1, how == PEELING ? chosen.spread(known) : known);
            basis.cut(rank);
            chosen.cut(equations);
        }

        private void addAllWith(int free, int size) {
            for (int more = 0; more <= free && size + more <= MOST_IN_SET; more++) {
                giving[size + more] += choose(free, more);
            }
        }
    }

    /** The fewest leaflets that fix what is not fixed yet. */
    private static final class Coming {
        final int[] lowRow = new int[MOST_IN_SET];
        final int[] highRow = new int[MOST_IN_SET];
        final Basis low = new Basis();
        final Basis high = new Basis();
        int all;
        int least;
        int found;

        boolean find(Book book, Equations lowCame, Equations highCame) {
            low.take(lowCame, NONE);
            high.take(highCame, NONE);
            if (!low.agrees || !high.agrees) {
                return false;
            }
            all = book.all();
            least = MOST_IN_SET + 1;
            found = 0;
            for (int x = 0; x < MOST_IN_SET; x++) {
                int pages = book.pagesOf(x);
                int sum = book.sumOf(pages);
                lowRow[x] = pages | (sum & 255) << MOST_ALL;
                highRow[x] = pages | (sum >> 8) << MOST_ALL;
            }
            seek(MOST_IN_SET - 1, 0, 0);
            return least <= MOST_IN_SET;
        }

        // From the highest number down and without it first: of sets as small the least comes first.
        private void seek(int x, int set, int size) {
            int lacking = all - Math.min(low.rank, high.rank);
            if (size + lacking >= least) {
                return;
            }
            if (lacking == 0) {
                least = size;
                found = set;
                return;
            }
            if (x < 0 || x >= MOST_IN_SET || lacking > x + 1) {
                return;
            }
            seek(x - 1, set, size);
            int lowRank = low.rank;
            int highRank = high.rank;
            low.add(lowRow[x]);
            high.add(highRow[x]);
            if (low.agrees && high.agrees) {
                seek(x - 1, set | 1 << x, size + 1);
            }
            low.cut(lowRank);
            high.cut(highRank);
        }
    }

    /** All ways to give the nameless papers of a heap to the books by which all equations agree. */
    private static final class Ways {
        final Paper[] nameless = new Paper[NAMELESS_ROOM];
        final int[] places = new int[NAMELESS_ROOM];
        final Basis[] bases = new Basis[BOOKS * OCTETS];
        int size;
        int everOf0;
        int everOf1;

        Ways() {
            for (int i = 0; i < BOOKS * OCTETS; i++) {
                bases[i] = new Basis();
            }
        }

        Basis basisOf(int book, int octet) {
            return bases[book * OCTETS + octet];
        }

        /** The bases hold what the papers with a name tell. */
        void findAll(Heap heap) {
            everOf0 = 0;
            everOf1 = 0;
            size = 0;
            for (int i = 0; i < heap.size; i++) {
                Paper paper = heap.at(i);
                if (paper != null && paper.book == NONE && size < NAMELESS_ROOM) {
                    nameless[size] = paper;
                    places[size] = i;
                    size++;
                }
            }
            if (allAgree()) {
                give(0, 0);
            }
        }

        private boolean allAgree() {
            for (int i = 0; i < bases.length; i++) {
                if (!bases[i].agrees) {
                    return false;
                }
            }
            return true;
        }

        // The papers ahead of i are given, those in the bits to book 1.
        private void give(int i, int of1) {
            if (i >= size || i >= NAMELESS_ROOM) {
                everOf1 |= of1;
                everOf0 |= ~of1;
                return;
            }
            Paper paper = nameless[i];
            if (paper != null) {
                for (int b = 0; b < BOOKS; b++) {
                    tryBook(i, of1, paper, b);
                }
            }
        }

        private void tryBook(int i, int of1, Paper paper, int book) {
            Basis low = basisOf(book, 0);
            Basis high = basisOf(book, 1);
            int lowRank = low.rank;
            int highRank = high.rank;
            low.add(paper.equation(book, 0));
            high.add(paper.equation(book, 1));
            if (low.agrees && high.agrees) {
                give(i + 1, of1 | book << i);
            }
            low.cut(lowRank);
            high.cut(highRank);
        }

        int bookAt(int place) {
            for (int i = 0; i < size; i++) {
                if (places[i] == place) {
                    int may0 = everOf0 >> i & 1;
                    int may1 = everOf1 >> i & 1;
                    return may0 + may1 == 0 ? NONE : may0 + may1 == 2 ? 2 : may1;
                }
            }
            return NONE;
        }
    }
}
