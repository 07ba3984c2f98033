import java.util.ArrayList;
import java.util.List;
import java.util.NoSuchElementException;
import java.util.function.IntPredicate;

/** The document again, as plainly as it can be counted out: slow, and by other ways than the program's. */
final class PlainModel {
    static final class Slip {
        final int book;
        final int x;
        final int sum;
        final int bytes;
        final int seal;

        Slip(int book, int x, int sum, int bytes, int seal) {
            this.book = book;
            this.x = x;
            this.sum = sum;
            this.bytes = bytes;
            this.seal = seal;
        }

        boolean alike(Slip o) {
            return book == o.book && x == o.x && sum == o.sum && bytes == o.bytes && seal == o.seal;
        }
    }

    static final class Row {
        final List<Integer> pages = new ArrayList<>();
        final int value;
        final int place;

        Row(List<Integer> pages, int value, int place) {
            this.pages.addAll(pages);
            this.value = value;
            this.place = place;
        }
    }

    static final class Odds {
        final Integer[] odds = new Integer[21];
        int firstC = 0;
        int firstN = 1;
        final List<List<Integer>> sums = new ArrayList<>();
        int seal = 0;
    }

    final int[] n = new int[2];
    final int[][] value = new int[2][16];
    final Odds[] odds = {new Odds(), new Odds()};
    List<List<Slip>> heaps = new ArrayList<>();
    final List<List<List<Slip>>> marks = new ArrayList<>();
    final int[] burn = new int[4];
    final int[] houses = {1, 1, 1, 1};
    final StringBuilder tape = new StringBuilder();
    int thrown = 0;

    PlainModel() {
        for (int i = 0; i < 4; i++) {
            heaps.add(new ArrayList<>());
            marks.add(null);
        }
    }

    boolean isTold(int b) {
        return b >= 0 && b <= 1 && n[b] > 0;
    }

    int all(int b) {
        return n[b] == 0 ? 0 : n[b] + odds[b].sums.size();
    }

    static boolean in(int v, int a, int z) {
        return v >= a && v <= z;
    }

    boolean blocked(int b) {
        for (List<Slip> h : heaps) {
            for (Slip s : h) {
                if (s.book == b || s.book == -1) {
                    return true;
                }
            }
        }
        return false;
    }

    void forget() {
        for (int i = 0; i < 4; i++) {
            marks.set(i, null);
        }
    }

    boolean book(int b, int pages) {
        if (!in(b, 0, 1) || !in(pages, 1, 16)) {
            return false;
        }
        n[b] = pages;
        value[b] = new int[16];
        odds[b] = new Odds();
        for (List<Slip> h : heaps) {
            h.removeIf(s -> s.book == b || s.book == -1);
        }
        forget();
        return true;
    }

    boolean page(int b, int p, int v) {
        if (!isTold(b) || !in(p, 0, n[b] - 1) || !in(v, 0, 65535) || blocked(b)) {
            return false;
        }
        value[b][p] = v;
        return true;
    }

    int feed(long a, long b, long c) {
        for (long w : new long[] {a, b, c}) {
            for (int i = 7; i >= 0; i--) {
                int sign = (int) (w >>> 8 * i & 0xff);
                if ((sign == 10 || in(sign, 32, 126)) && tape.length() < 1000) {
                    tape.append((char) sign);
                }
            }
        }
        return tape.length();
    }

    int draw(int b) {
        String text = tape.toString();
        tape.setLength(0);
        if (!isTold(b) || blocked(b)) {
            return -1;
        }
        Odds fresh = new Odds();
        int fault = parse(text, fresh, n[b]);
        if (fault == 0) {
            odds[b] = fresh;
            forget();
        }
        return fault;
    }

    /** Tokens by a pattern, then the statements by a state that waits for the next token. */
    static int parse(String text, Odds o, int pages) {
        java.util.regex.Matcher m = java.util.regex.Pattern.compile("[a-z]+|[0-9]+|[^ \n]").matcher(text);
        String state = "";
        int first = 0;
        List<Integer> sum = null;
        boolean hadFirst = false;
        while (m.find()) {
            String t = m.group();
            int at = 16 * m.start();
            boolean number = t.matches("[0-9]{1,4}");
            int v = number ? Integer.parseInt(t) : -1;
            switch (state) {
                case "":
                    if (t.equals("odds") || t.equals("first") || t.equals("sum") || t.equals("seal")) {
                        if (t.equals("first") && hadFirst || t.equals("seal") && o.seal > 0) {
                            return 3 + at;
                        }
                        if (t.equals("sum") && o.sums.size() == 4) {
                            return 5 + at;
                        }
                        if (t.equals("sum")) {
                            sum = new ArrayList<>();
                        }
                        state = t;
                    } else {
                        return 1 + at;
                    }
                    break;
                case "odds":
                case "first":
                    if (!number) {
                        return 1 + at;
                    }
                    if (!in(v, 1, state.equals("odds") ? 20 : 16)) {
                        return 4 + at;
                    }
                    if (state.equals("odds") && o.odds[v] != null) {
                        return 3 + at;
                    }
                    first = v;
                    state += "2";
                    break;
                case "odds2":
                case "first2":
                    if (!number) {
                        return 1 + at;
                    }
                    if (state.equals("odds2") ? !in(v, 0, 999) : !in(v, 2, 9)) {
                        return 4 + at;
                    }
                    if (state.equals("odds2")) {
                        o.odds[first] = v;
                    } else {
                        hadFirst = true;
                        o.firstC = first;
                        o.firstN = v;
                    }
                    state = "end";
                    break;
                case "seal":
                    if (!number) {
                        return 1 + at;
                    }
                    if (!in(v, 1, 996)) {
                        return 4 + at;
                    }
                    o.seal = v;
                    state = "end";
                    break;
                case "sum":
                    if (t.equals(";") && sum.size() >= 2) {
                        o.sums.add(sum);
                        state = "";
                        break;
                    }
                    if (!number) {
                        return 1 + at;
                    }
                    if (v >= pages) {
                        return 4 + at;
                    }
                    if (sum.contains(v)) {
                        return 3 + at;
                    }
                    sum.add(v);
                    break;
                default:
                    if (!t.equals(";")) {
                        return 1 + at;
                    }
                    state = "";
            }
        }
        return state.isEmpty() ? 0 : 1 + 16 * text.length();
    }

    int valueOf(int b, int p) {
        if (p < n[b]) {
            return value[b][p];
        }
        int v = 0;
        for (int q : odds[b].sums.get(p - n[b])) {
            v ^= value[b][q];
        }
        return v;
    }

    List<Integer> pagesOf(int b, int x) {
        return pagesOf(b, x, odds[b].odds);
    }

    List<Integer> pagesOf(int b, int x, Integer[] chances) {
        long g = (x * 7919L + b * 104729L + 1) % 2147483648L;
        int total = 0;
        for (int d = 1; d <= all(b); d++) {
            total += chances[d] == null ? 0 : chances[d];
        }
        int many = 1;
        if (total > 0) {
            g = (g * 1103515245L + 12345) % 2147483648L;
            long r = g / 65536 % total;
            long upTo = 0;
            for (int d = 1; d <= all(b); d++) {
                upTo += chances[d] == null ? 0 : chances[d];
                if (upTo > r) {
                    many = d;
                    break;
                }
            }
        }
        List<Integer> left = new ArrayList<>();
        for (int p = 0; p < all(b); p++) {
            left.add(p);
        }
        List<Integer> got = new ArrayList<>();
        while (got.size() < many) {
            g = (g * 1103515245L + 12345) % 2147483648L;
            List<Integer> tickets = new ArrayList<>();
            for (int p : left) {
                int weight = p < n[b] && p < odds[b].firstC ? odds[b].firstN : 1;
                for (int i = 0; i < weight; i++) {
                    tickets.add(p);
                }
            }
            Integer p = tickets.get((int) (g / 65536 % tickets.size()));
            left.remove(p);
            got.add(p);
        }
        return got;
    }

    int sumOf(int b, List<Integer> pages) {
        int s = 0;
        for (int p : pages) {
            s ^= valueOf(b, p);
        }
        return s;
    }

    int sealOf(int b, int x, int sum) {
        return odds[b].seal == 0 ? 0 : (int) (((x + 1L) * odds[b].seal + 31L * sum) % 997);
    }

    static int bits(List<Integer> pages) {
        int r = 0;
        for (int p : pages) {
            r |= 1 << p;
        }
        return r;
    }

    int leaflet(int b, int x, int what) {
        if (!isTold(b) || !in(x, 0, 9999) || !in(what, 0, 3)) {
            return -1;
        }
        List<Integer> p = pagesOf(b, x);
        int s = sumOf(b, p);
        return what == 0 ? bits(p) : what == 1 ? s : what == 2 ? sealOf(b, x, s) : p.size();
    }

    int told(int b, int p) {
        return !isTold(b) || !in(p, 0, all(b) - 1) ? -1 : valueOf(b, p);
    }

    int namelessIn(int q) {
        int c = 0;
        for (Slip s : heaps.get(q)) {
            c += s.book == -1 ? 1 : 0;
        }
        return c;
    }

    int put(int q, Slip s) {
        List<Slip> h = heaps.get(q);
        if (s.book >= 0 && s.bytes == 3 && odds[s.book].seal > 0 && s.seal != sealOf(s.book, s.x, s.sum)) {
            thrown++;
            return -1;
        }
        if (h.size() == 40 || s.book == -1 && namelessIn(q) == 6) {
            return -1;
        }
        h.add(s);
        return h.size() - 1;
    }

    int comes(int q, int b, int x, int bytes) {
        if (!in(q, 0, 3) || !isTold(b) || !in(x, 0, 9999) || !in(bytes, 1, 3)) {
            return -1;
        }
        int s = leaflet(b, x, 1);
        int kept = bytes == 1 ? s % 256 : bytes == 2 ? s / 256 * 256 : s;
        return put(q, new Slip(b, x, kept, bytes, sealOf(b, x, s)));
    }

    int slip(int q, int b, int x, int error) {
        if (!in(q, 0, 3) || !isTold(b) || !in(x, 0, 9999) || !in(error, 1, 65535)) {
            return -1;
        }
        int s = leaflet(b, x, 1);
        return put(q, new Slip(b, x, s ^ error, 3, sealOf(b, x, s)));
    }

    int forged(int q, int b, int x, int sum, int seal) {
        if (!in(q, 0, 3) || !isTold(b) || !in(x, 0, 9999) || !in(sum, 0, 65535) || !in(seal, 0, 996)) {
            return -1;
        }
        return put(q, new Slip(b, x, sum, 3, seal));
    }

    int nameless(int q, int x, int sum) {
        if (!in(q, 0, 3) || !in(x, 0, 9999) || !in(sum, 0, 65535)) {
            return -1;
        }
        return put(q, new Slip(-1, x, sum, 3, 0));
    }

    int paper(int q, int place, int what) {
        if (!in(q, 0, 3) || !in(place, 0, heaps.get(q).size() - 1) || !in(what, 0, 5)) {
            throw new NoSuchElementException();
        }
        Slip s = heaps.get(q).get(place);
        switch (what) {
            case 0:
                return s.book;
            case 1:
                return s.x;
            case 2:
                return s.sum;
            case 3:
                return s.bytes;
            case 4:
                return s.seal;
            default:
        }
        if (s.book == -1) {
            return -1;
        }
        int c = 0;
        for (int p : pagesOf(s.book, s.x)) {
            boolean known = true;
            for (int o = 0; o < 2; o++) {
                if ((s.bytes >> o & 1) != 0 && peel(s.book, rows(s.book, o, heaps.get(q)))[p] < 0) {
                    known = false;
                }
            }
            c += known ? 0 : 1;
        }
        return c;
    }

    boolean away(int q, int place) {
        if (!in(q, 0, 3) || !in(place, 0, heaps.get(q).size() - 1)) {
            return false;
        }
        heaps.get(q).remove(place);
        return true;
    }

    List<Row> hidden(int b) {
        List<Row> r = new ArrayList<>();
        for (int i = 0; i < odds[b].sums.size(); i++) {
            List<Integer> p = new ArrayList<>(odds[b].sums.get(i));
            p.add(n[b] + i);
            r.add(new Row(p, 0, -1));
        }
        return r;
    }

    List<Row> rows(int b, int o, List<Slip> heap) {
        List<Row> r = hidden(b);
        for (int i = 0; i < heap.size(); i++) {
            Slip s = heap.get(i);
            if (s.book == b && (s.bytes >> o & 1) != 0) {
                r.add(new Row(pagesOf(b, s.x), s.sum >> 8 * o & 255, i));
            }
        }
        return r;
    }

    /** The bytes of all pages, -1 where they are not known. */
    int[] peel(int b, List<Row> rows) {
        int[] known = new int[all(b)];
        java.util.Arrays.fill(known, -1);
        boolean again = true;
        while (again) {
            again = false;
            for (Row r : rows) {
                int missing = -1;
                int count = 0;
                int v = r.value;
                for (int p : r.pages) {
                    if (known[p] < 0) {
                        missing = p;
                        count++;
                    } else {
                        v ^= known[p];
                    }
                }
                if (count == 1) {
                    known[missing] = v;
                    again = true;
                    break;
                }
            }
        }
        return known;
    }

    int peels(int q, int b, int o, int what) {
        if (!in(q, 0, 3) || !isTold(b) || !in(o, 0, 1) || !in(what, 0, 3)) {
            return -1;
        }
        List<Row> rows = rows(b, o, heaps.get(q));
        int[] known = peel(b, rows);
        int bits = 0;
        int quarrel = 0;
        int work = 0;
        int left = 0;
        for (int p = 0; p < known.length; p++) {
            if (known[p] >= 0) {
                bits |= 1 << p;
                work--;
            }
        }
        for (Row r : rows) {
            int un = 0;
            int v = r.value;
            for (int p : r.pages) {
                if (known[p] < 0) {
                    un++;
                } else {
                    work++;
                    v ^= known[p];
                }
            }
            left += un >= 2 ? 1 : 0;
            quarrel += un == 0 && v != 0 ? 1 : 0;
        }
        return what == 0 ? bits : what == 1 ? quarrel : what == 2 ? work : left;
    }

    /** Rank over boolean rows, column by column; bit -1 leaves the right side out. */
    static int rank(List<Row> rows, int columns, int bit) {
        List<boolean[]> left = new ArrayList<>();
        for (Row r : rows) {
            boolean[] row = new boolean[columns + 1];
            for (int p : r.pages) {
                row[p] = true;
            }
            row[columns] = bit >= 0 && (r.value >> bit & 1) != 0;
            left.add(row);
        }
        int rank = 0;
        for (int c = 0; c <= columns; c++) {
            boolean[] pivot = null;
            for (boolean[] row : left) {
                if (row[c]) {
                    pivot = row;
                    break;
                }
            }
            if (pivot == null) {
                continue;
            }
            rank++;
            left.remove(pivot);
            for (boolean[] row : left) {
                if (row[c]) {
                    for (int i = c; i <= columns; i++) {
                        row[i] ^= pivot[i];
                    }
                }
            }
        }
        return rank;
    }

    boolean agree(int b, List<Row> rows) {
        int rank = rank(rows, all(b), -1);
        for (int bit = 0; bit < 8; bit++) {
            if (rank(rows, all(b), bit) != rank) {
                return false;
            }
        }
        return true;
    }

    /** The byte of a page if it is fixed: of each bit just one value goes with the rows. */
    int fixed(int b, List<Row> rows, int p) {
        if (!agree(b, rows)) {
            return -1;
        }
        int v = 0;
        List<Row> with0 = new ArrayList<>(rows);
        with0.add(new Row(List.of(p), 0, -1));
        List<Row> with1 = new ArrayList<>(rows);
        with1.add(new Row(List.of(p), 255, -1));
        int rank = rank(with0, all(b), -1);
        for (int bit = 0; bit < 8; bit++) {
            boolean may0 = rank(with0, all(b), bit) == rank;
            boolean may1 = rank(with1, all(b), bit) == rank;
            if (may0 && may1) {
                return -1;
            }
            v |= may1 ? 1 << bit : 0;
        }
        return v;
    }

    int solves(int q, int b, int o, int what) {
        if (!in(q, 0, 3) || !isTold(b) || !in(o, 0, 1) || !in(what, 0, 3)) {
            return -1;
        }
        List<Row> rows = rows(b, o, heaps.get(q));
        if (what == 0) {
            int bits = 0;
            for (int p = 0; p < all(b); p++) {
                bits |= fixed(b, rows, p) >= 0 ? 1 << p : 0;
            }
            return bits;
        }
        int rank = rank(rows, all(b), -1);
        return what == 1 ? agree(b, rows) ? 1 : 0 : what == 2 ? rank : all(b) - rank;
    }

    int readFrom(List<Slip> heap, int b, int p, int how) {
        int[] v = new int[2];
        for (int o = 0; o < 2; o++) {
            List<Row> rows = rows(b, o, heap);
            v[o] = how == 0 ? peel(b, rows)[p] : fixed(b, rows, p);
        }
        return v[0] < 0 || v[1] < 0 ? -1 : v[0] + 256 * v[1];
    }

    int read(int q, int b, int p, int how) {
        if (!in(q, 0, 3) || !isTold(b) || !in(p, 0, all(b) - 1) || !in(how, 0, 1)) {
            return -1;
        }
        return readFrom(heaps.get(q), b, p, how);
    }

    int soon(int q, int b, int p, int how) {
        if (!in(q, 0, 3) || !isTold(b) || !in(p, 0, all(b) - 1) || !in(how, 0, 1)) {
            return -1;
        }
        for (int k = 0; k <= heaps.get(q).size(); k++) {
            if (readFrom(heaps.get(q).subList(0, k), b, p, how) >= 0) {
                return k;
            }
        }
        return -1;
    }

    static List<Row> without(List<Row> rows, int... away) {
        List<Row> r = new ArrayList<>();
        for (int i = 0; i < rows.size(); i++) {
            boolean gone = false;
            for (int a : away) {
                gone |= a == i;
            }
            if (!gone) {
                r.add(rows.get(i));
            }
        }
        return r;
    }

    List<Integer> suspects(int b, List<Row> rows) {
        List<Integer> r = new ArrayList<>();
        for (int i = 0; i < rows.size(); i++) {
            if (rows.get(i).place >= 0 && agree(b, without(rows, i))) {
                r.add(i);
            }
        }
        return r;
    }

    int slipped(int q, int b, int o, int what) {
        if (!in(q, 0, 3) || !isTold(b) || !in(o, 0, 1) || !in(what, 0, 2)) {
            return -1;
        }
        List<Row> rows = rows(b, o, heaps.get(q));
        if (agree(b, rows)) {
            return -1;
        }
        List<Integer> s = suspects(b, rows);
        return what == 0 ? s.size() : what == 1 ? s.isEmpty() ? -1 : rows.get(s.get(0)).place : s.size() == 1 ? 1 : 0;
    }

    int right(int q, int b, int o, int p) {
        if (!in(q, 0, 3) || !isTold(b) || !in(o, 0, 1) || !in(p, 0, all(b) - 1)) {
            return -1;
        }
        List<Row> rows = rows(b, o, heaps.get(q));
        if (agree(b, rows)) {
            return -1;
        }
        List<Integer> values = new ArrayList<>();
        for (int i : suspects(b, rows)) {
            values.add(fixed(b, without(rows, i), p));
        }
        return values.stream().distinct().count() == 1 ? values.get(0) : -1;
    }

    int doubles(int q, int b, int o) {
        if (!in(q, 0, 3) || !isTold(b) || !in(o, 0, 1)) {
            return -1;
        }
        List<Row> rows = rows(b, o, heaps.get(q));
        int rank = rank(rows, all(b), -1);
        int c = 0;
        for (int i = 0; i < rows.size(); i++) {
            c += rows.get(i).place >= 0 && rank(without(rows, i), all(b), -1) == rank ? 1 : 0;
        }
        return c;
    }

    boolean spanned(int b, List<Row> rows, int p) {
        List<Row> with = new ArrayList<>(rows);
        with.add(new Row(List.of(p), 0, -1));
        return rank(with, all(b), -1) == rank(rows, all(b), -1);
    }

    int guard(int q, int b, int o, int p) {
        if (!in(q, 0, 3) || !isTold(b) || !in(o, 0, 1) || !in(p, 0, all(b) - 1)) {
            return -1;
        }
        List<Row> rows = rows(b, o, heaps.get(q));
        if (fixed(b, rows, p) < 0) {
            return -1;
        }
        int from = odds[b].sums.size();
        int to = rows.size();
        for (int many = 1; many <= 3; many++) {
            for (int i = from; i < to; i++) {
                for (int j = many > 1 ? i + 1 : i; j < (many > 1 ? to : i + 1); j++) {
                    for (int k = many > 2 ? j + 1 : j; k < (many > 2 ? to : j + 1); k++) {
                        if (!spanned(b, without(rows, i, j, k), p)) {
                            return many;
                        }
                    }
                }
            }
        }
        return -1;
    }

    int tocome(int q, int b, int what) {
        if (!in(q, 0, 3) || !isTold(b) || !in(what, 0, 1)) {
            return -1;
        }
        if (!agree(b, rows(b, 0, heaps.get(q))) || !agree(b, rows(b, 1, heaps.get(q)))) {
            return -1;
        }
        for (int many = 0; many <= 11; many++) {
            for (int set = 0; set < 2048; set++) {
                if (Integer.bitCount(set) == many && fixesAll(q, b, set)) {
                    return what == 0 ? many : set;
                }
            }
        }
        return -1;
    }

    boolean fixesAll(int q, int b, int set) {
        for (int o = 0; o < 2; o++) {
            List<Row> rows = rows(b, o, heaps.get(q));
            for (int x = 0; x < 11; x++) {
                if ((set >> x & 1) != 0) {
                    rows.add(new Row(pagesOf(b, x), leaflet(b, x, 1) >> 8 * o & 255, 99));
                }
            }
            if (rank(rows, all(b), -1) < all(b) || !agree(b, rows)) {
                return false;
            }
        }
        return true;
    }

    boolean gives(int b, List<List<Integer>> leaflets, int set, int how) {
        List<Row> rows = hidden(b);
        for (int x = 0; x < leaflets.size(); x++) {
            if ((set >> x & 1) != 0) {
                rows.add(new Row(leaflets.get(x), 0, x));
            }
        }
        if (how == 1) {
            for (int p = 0; p < n[b]; p++) {
                if (!spanned(b, rows, p)) {
                    return false;
                }
            }
            return true;
        }
        int[] known = peel(b, rows);
        for (int p = 0; p < n[b]; p++) {
            if (known[p] < 0) {
                return false;
            }
        }
        return true;
    }

    List<List<Integer>> firstLeaflets(int b, int m, Integer[] chances) {
        List<List<Integer>> r = new ArrayList<>();
        for (int x = 0; x < m; x++) {
            r.add(pagesOf(b, x, chances));
        }
        return r;
    }

    int setsGiving(int b, int m, int k, int how, Integer[] chances) {
        List<List<Integer>> leaflets = firstLeaflets(b, m, chances);
        int c = 0;
        for (int set = 0; set < 1 << m; set++) {
            c += Integer.bitCount(set) == k && gives(b, leaflets, set, how) ? 1 : 0;
        }
        return c;
    }

    static int sets(int m, int k) {
        int c = 0;
        for (int set = 0; set < 1 << m; set++) {
            c += Integer.bitCount(set) == k ? 1 : 0;
        }
        return c;
    }

    int chances(int b, int m, int k, int how) {
        if (!isTold(b) || !in(m, 1, 11) || !in(k, 0, m) || !in(how, 0, 1)) {
            return -1;
        }
        return setsGiving(b, m, k, how, odds[b].odds);
    }

    int enough(int b, int m, int how, boolean half) {
        if (!isTold(b) || !in(m, 1, 11) || !in(how, 0, 1)) {
            return -1;
        }
        for (int k = 0; k <= m; k++) {
            int c = setsGiving(b, m, k, how, odds[b].odds);
            if (half ? c + c >= sets(m, k) : c == sets(m, k)) {
                return k;
            }
        }
        return -1;
    }

    long average(int b, int m, int how, int what) {
        if (!isTold(b) || !in(m, 1, 11) || !in(how, 0, 1) || !in(what, 0, 1)) {
            return -1;
        }
        List<List<Integer>> leaflets = firstLeaflets(b, m, odds[b].odds);
        boolean[] gives = new boolean[1 << m];
        for (int set = 0; set < 1 << m; set++) {
            gives[set] = gives(b, leaflets, set, how);
        }
        if (!gives[(1 << m) - 1]) {
            return -1;
        }
        long orders = 1;
        for (int i = 2; i <= m; i++) {
            orders *= i;
        }
        long came = cameOver(m, 0, s -> gives[s]);
        long g = java.math.BigInteger.valueOf(came).gcd(java.math.BigInteger.valueOf(orders)).longValueExact();
        return what == 0 ? came / g : orders / g;
    }

    /** Over all orders of the rest, each walked one by one, how many have come as all is there first. */
    static long cameOver(int m, int set, IntPredicate gives) {
        int size = Integer.bitCount(set);
        if (gives.test(set)) {
            long orders = 1;
            for (int i = 2; i <= m - size; i++) {
                orders *= i;
            }
            return size * orders;
        }
        long came = 0;
        for (int x = 0; x < m; x++) {
            if ((set >> x & 1) == 0) {
                came += cameOver(m, set | 1 << x, gives);
            }
        }
        return came;
    }

    int degree(int b, int m, int k, int how) {
        if (!isTold(b) || !in(m, 1, 11) || !in(k, 0, m) || !in(how, 0, 1)) {
            return -1;
        }
        int best = -1;
        int which = 0;
        for (int d = 1; d <= all(b); d++) {
            Integer[] only = new Integer[21];
            only[d] = 1;
            int c = setsGiving(b, m, k, how, only);
            if (c > best) {
                best = c;
                which = d;
            }
        }
        return which;
    }

    int apart(int q, int place) {
        if (!in(q, 0, 3) || !in(place, 0, heaps.get(q).size() - 1)) {
            return -1;
        }
        List<Slip> heap = heaps.get(q);
        if (heap.get(place).book != -1 || !isTold(0) || !isTold(1)) {
            return -1;
        }
        boolean[] may = new boolean[2];
        for (int way = 0; way < 1 << namelessIn(q); way++) {
            List<Slip> named = new ArrayList<>();
            int i = 0;
            for (Slip s : heap) {
                named.add(s.book >= 0 ? s : new Slip(way >> i++ & 1, s.x, s.sum, s.bytes, s.seal));
            }
            boolean good = true;
            for (int b = 0; b < 2 && good; b++) {
                good = agree(b, rows(b, 0, named)) && agree(b, rows(b, 1, named));
            }
            if (good) {
                may[named.get(place).book] = true;
            }
        }
        return may[0] && may[1] ? 2 : may[0] ? 0 : may[1] ? 1 : -1;
    }

    boolean quarter(int q, int burnt, int many) {
        if (!in(q, 0, 3) || !in(burnt, 0, 100) || !in(many, 0, 999)) {
            return false;
        }
        burn[q] = burnt;
        houses[q] = many;
        return true;
    }

    boolean falls(int b, int x, int q) {
        return (x * 37 + 11 * b + 101 * q + 13) * 7 % 100 >= burn[q];
    }

    int scatter(int b, int from, int to) {
        if (!isTold(b) || !in(from, 0, 9999) || !in(to, from, 9999) || to - from > 99) {
            return -1;
        }
        int c = 0;
        for (int x = from; x <= to; x++) {
            for (int q = 0; q < 4; q++) {
                Slip s = new Slip(b, x, leaflet(b, x, 1), 3, leaflet(b, x, 2));
                if (falls(b, x, q) && heaps.get(q).stream().noneMatch(s::alike) && put(q, s) >= 0) {
                    c++;
                }
            }
        }
        return c;
    }

    int needs(int q, int b) {
        if (!in(q, 0, 3) || !isTold(b)) {
            return -1;
        }
        List<Row> rows = hidden(b);
        for (int m = 0; m <= 60; m++) {
            if (rank(rows, all(b), -1) == all(b)) {
                return m;
            }
            if (falls(b, m, q)) {
                rows.add(new Row(pagesOf(b, m), 0, m));
            }
        }
        return -1;
    }

    int allHouses() {
        return houses[0] + houses[1] + houses[2] + houses[3];
    }

    int town(int b, int share) {
        if (!isTold(b) || !in(share, 0, 100)) {
            return -1;
        }
        for (int m = 0; m <= 60; m++) {
            int served = 0;
            for (int q = 0; q < 4; q++) {
                int need = needs(q, b);
                served += need >= 0 && need <= m ? houses[q] : 0;
            }
            if (served * 100 >= share * allHouses()) {
                return m;
            }
        }
        return -1;
    }

    int swap(int from, int to, int k) {
        if (!in(from, 0, 3) || !in(to, 0, 3) || from == to || !in(k, 0, 40)) {
            return -1;
        }
        int got = 0;
        for (Slip s : heaps.get(from)) {
            if (got < k && heaps.get(to).stream().noneMatch(s::alike) && put(to, s) >= 0) {
                got++;
            }
        }
        return got;
    }

    static List<List<Slip>> copy(List<List<Slip>> heaps) {
        List<List<Slip>> r = new ArrayList<>();
        for (List<Slip> h : heaps) {
            r.add(new ArrayList<>(h));
        }
        return r;
    }

    boolean mark(int mark, boolean back) {
        if (!in(mark, 0, 3) || back && marks.get(mark) == null) {
            return false;
        }
        if (back) {
            heaps = copy(marks.get(mark));
        } else {
            marks.set(mark, copy(heaps));
        }
        return true;
    }

    int count(int what) {
        if (in(what, 0, 3)) {
            return heaps.get(what).size();
        }
        return what == 4 ? all(0) : what == 5 ? all(1) : what == 6 ? tape.length() : what == 7 ? thrown
            : what == 8 ? allHouses() : -1;
    }
}
