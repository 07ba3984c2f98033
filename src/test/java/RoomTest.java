import java.lang.management.ManagementFactory;
import java.util.NoSuchElementException;

/** What 512 calls of one object make, in bytes: far below the room of one run. */
public final class RoomTest {
    private static final int CALLS = 512;
    // 600,000 objects of two words at least, 7.3 million fields or elements of four bytes: a fifth of the less.
    private static final long MOST_BYTES = 4_000_000;

    public static void main(String[] args) {
        int wrong = 0;
        for (int kind = 0; kind < 26; kind++) {
            run(kind);
            long before = allocated();
            run(kind);
            long made = allocated() - before;
            if (made > MOST_BYTES) {
                wrong++;
                System.out.println("calls of kind " + kind + " made " + made + " bytes");
            }
        }
        System.out.println(wrong == 0 ? "all runs find room" : wrong + " runs make too much");
        if (wrong != 0) {
            System.exit(1);
        }
    }

    private static long allocated() {
        com.sun.management.ThreadMXBean bean = (com.sun.management.ThreadMXBean) ManagementFactory.getThreadMXBean();
        return bean.getThreadAllocatedBytes(Thread.currentThread().getId());
    }

    private static void feed(ThousandLeaflets x, String text) {
        for (int at = 0; at < text.length(); at += 8) {
            long word = 0;
            for (int i = 0; i < 8; i++) {
                word = word << 8 | (at + i < text.length() ? text.charAt(at + i) : 0);
            }
            x.feed(word, 0, 0);
        }
    }

    private static void run(int kind) {
        ThousandLeaflets x = new ThousandLeaflets();
        int pages = kind >= 17 && kind <= 21 ? 7 : 16;
        x.book(0, pages);
        feed(x, "sum 0 1 2;sum 0 3 4 6;sum 1 5;sum 2 4; odds 2 4; odds 3 3; odds 1 1; first 9 3;");
        x.draw(0);
        for (int p = 0; p < pages; p++) {
            x.page(0, p, 4099 * p & 65535);
        }
        x.book(1, 3);
        x.mark(0, false);
        x.scatter(0, 0, 33);
        for (int i = 0; i < 6; i++) {
            x.nameless(0, i, i);
        }
        for (int i = 0; i < CALLS - 60; i++) {
            call(x, kind, i);
        }
    }

    private static void call(ThousandLeaflets x, int kind, int i) {
        switch (kind) {
            case 0: x.feed(0x2020202020202020L, 0x2020202020202020L, 0x2020202020202020L); break;
            case 1: if (i % 2 == 0) { x.feed(0x6F64647320312031L, 0x3B << 24, 0); } else { x.draw(1); } break;
            case 2: x.leaflet(0, i + 100, 1); break;
            case 3: if (i % 2 == 0) { x.comes(0, 0, i, 3); } else { x.away(0, 3); } break;
            case 4: x.slip(0, 0, i, 7); break;
            case 5: x.forged(0, 0, i, i, i); break;
            case 6: try { x.paper(0, i % 50, 5); } catch (NoSuchElementException e) { i++; } break;
            case 7: x.peels(0, 0, 0, 2); break;
            case 8: x.solves(0, 0, 0, 0); break;
            case 9: x.read(0, 0, i % 20, i % 2); break;
            case 10: x.soon(0, 0, i % 20, i % 2); break;
            case 11: x.slipped(0, 0, 0, 0); break;
            case 12: x.right(0, 0, 0, 3); break;
            case 13: x.doubles(0, 0, 0); break;
            case 14: x.guard(1, 0, 0, i % 20); break;
            case 15: x.tocome(3, 0, 0); break;
            case 16: x.needs(0, 0); break;
            case 17: x.chances(0, 11, 7, i % 2); break;
            case 18: x.enough(0, 11, i % 2, false); break;
            case 19: x.average(0, 11, i % 2, 0); break;
            case 20: x.degree(0, 11, 8, i % 2); break;
            case 21: x.tocome(3, 0, 0); break;
            case 22: x.apart(0, 34 + i % 6); break;
            case 23: if (i % 2 == 0) { x.scatter(0, 100 * (i % 99), 100 * (i % 99) + 99); } else { x.mark(0, true); } break;
            case 24: x.town(0, i % 100); break;
            default: if (i % 2 == 0) { x.swap(0, 1, 40); } else { x.book(1, 3); }
        }
    }
}
