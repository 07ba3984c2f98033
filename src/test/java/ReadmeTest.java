import java.io.IOException;
import java.nio.file.Files;
import java.nio.file.Path;
import java.util.ArrayList;
import java.util.List;
import java.util.regex.Matcher;
import java.util.regex.Pattern;

/** The run of calls that README.md shows is made here, call by call; each line there must have the answer. */
public final class ReadmeTest {
    private static final Pattern SHOWN = Pattern.compile("^((?:x\\.|feed\\().*\\);) +// (true|false|-?\\d+)\\b.*$");

    private static List<String> lines = new ArrayList<>();
    private static int at = 0;

    public static void main(String[] args) throws IOException {
        for (String line : Files.readAllLines(Path.of("README.md"))) {
            Matcher shown = SHOWN.matcher(line);
            if (shown.matches()) {
                lines.add(shown.group(1) + " // " + shown.group(2));
            } else if (line.startsWith("x.") || line.startsWith("feed(")) {
                lines.add(line + " // has no answer");
            }
        }
        ThousandLeaflets x = new ThousandLeaflets();
        tell(x);
        reads(x);
        slips(x);
        chances(x);
        town(x);
        Kit.says("README.md shows a run of calls");
        Kit.due("how many", at, lines.size());
        Kit.end();
    }

    private static void shown(String call, Object answer) {
        String due = call + "; // " + answer;
        String there = at < lines.size() ? lines.get(at) : "nothing";
        at++;
        Kit.says("README.md shows: " + there);
        Kit.due(due, true, due.equals(there));
    }

    private static void tell(ThousandLeaflets x) {
        shown("x.book(0, 3)", x.book(0, 3));
        shown("x.page(0, 0, 258)", x.page(0, 0, 258));
        shown("x.page(0, 1, 772)", x.page(0, 1, 772));
        shown("x.page(0, 2, 1286)", x.page(0, 2, 1286));
        shown("feed(x, \"odds 1 1; odds 2 2; sum 0 1;\")", Kit.feed(x, "odds 1 1; odds 2 2; sum 0 1;"));
        shown("x.draw(0)", x.draw(0));
        shown("x.count(4)", x.count(4));
        shown("x.told(0, 3)", x.told(0, 3));
    }

    private static void reads(ThousandLeaflets x) {
        shown("x.leaflet(0, 0, 0)", x.leaflet(0, 0, 0));
        shown("x.comes(0, 0, 0, 3)", x.comes(0, 0, 0, 3));
        shown("x.comes(0, 0, 3, 1)", x.comes(0, 0, 3, 1));
        shown("x.peels(0, 0, 0, 0)", x.peels(0, 0, 0, 0));
        shown("x.peels(0, 0, 1, 0)", x.peels(0, 0, 1, 0));
        shown("x.comes(0, 0, 8, 2)", x.comes(0, 0, 8, 2));
        shown("x.read(0, 0, 0, 0)", x.read(0, 0, 0, 0));
        shown("x.read(0, 0, 1, 1)", x.read(0, 0, 1, 1));
        shown("x.soon(0, 0, 0, 0)", x.soon(0, 0, 0, 0));
        shown("x.tocome(0, 0, 0)", x.tocome(0, 0, 0));
        shown("x.tocome(0, 0, 1)", x.tocome(0, 0, 1));
    }

    private static void slips(ThousandLeaflets x) {
        shown("x.slip(0, 0, 9, 1)", x.slip(0, 0, 9, 1));
        shown("x.solves(0, 0, 0, 1)", x.solves(0, 0, 0, 1));
        shown("x.slipped(0, 0, 0, 0)", x.slipped(0, 0, 0, 0));
        shown("x.slipped(0, 0, 0, 1)", x.slipped(0, 0, 0, 1));
        shown("x.away(0, 3)", x.away(0, 3));
    }

    private static void chances(ThousandLeaflets x) {
        shown("x.chances(0, 5, 3, 1)", x.chances(0, 5, 3, 1));
        shown("x.enough(0, 5, 1, false)", x.enough(0, 5, 1, false));
        shown("x.average(0, 5, 1, 0)", x.average(0, 5, 1, 0));
        shown("x.average(0, 5, 1, 1)", x.average(0, 5, 1, 1));
        shown("x.degree(0, 5, 3, 1)", x.degree(0, 5, 3, 1));
    }

    private static void town(ThousandLeaflets x) {
        shown("x.quarter(1, 50, 20)", x.quarter(1, 50, 20));
        shown("x.needs(1, 0)", x.needs(1, 0));
        shown("x.town(0, 90)", x.town(0, 90));
        shown("x.mark(0, false)", x.mark(0, false));
        shown("x.scatter(0, 0, 4)", x.scatter(0, 0, 4));
        shown("x.count(1)", x.count(1));
        shown("x.swap(2, 1, 5)", x.swap(2, 1, 5));
        shown("x.mark(0, true)", x.mark(0, true));
        shown("x.count(1)", x.count(1));
    }
}
