import java.io.IOException;
import java.nio.charset.StandardCharsets;
import java.nio.file.Files;
import java.nio.file.Path;
import java.util.ArrayList;
import java.util.List;
import java.util.TreeSet;
import java.util.function.ToIntFunction;
import java.util.regex.Matcher;
import java.util.regex.Pattern;

/**
 * What the edge tests share. Each of them begins by edge(), which names a promise and quotes the document's words
 * for a boundary case; the quote is looked up in the document, so that the words that no test quotes can be told.
 */
final class Edges {
    static final int BAD = -100000;
    static final int[] FAR_OFF = {-1, -2, Integer.MIN_VALUE, Integer.MAX_VALUE};

    /** Words by which the document names a boundary case. */
    private static final Pattern MARKS = Pattern.compile("NONE|-2|-100000|false|at most|[Nn]othing|\\bnone\\b|no such|"
            + "not by|for others|\\d+ \\.\\. \\w|\\d to \\d|999|alike|wrap|rounded|divided by|\\bheld\\b|less than|401st|"
            + "5th|7th|longer|can't|cannot|\\bempty\\b|below|can be|already|itself|the last|first|at worst|at least|"
            + "fewest|shortest");
    private static final Path DOCUMENT = Path.of("../shared/DOC.md");

    private static final List<String> SECTIONS = new ArrayList<>();
    private static final List<boolean[]> QUOTED = new ArrayList<>();
    private static final TreeSet<Integer> PROMISES = new TreeSet<>();
    private static int wrong;
    private static int promise;
    private static String words = "";

    private Edges() {
    }

    // ---- the document's words

    /** The Terms come first, then each promise by its number. Without the document, nothing is looked up. */
    static void openDocument() throws IOException {
        if (!Files.exists(DOCUMENT)) {
            System.out.println("no " + DOCUMENT + ": quotes are not looked up");
            return;
        }
        String whole = Files.readString(DOCUMENT, StandardCharsets.UTF_8);
        addSection(whole, "## Terms");
        for (int number = 1; number <= 41; number++) {
            addSection(whole, "## Promise " + number + ":");
        }
    }

    private static void addSection(String whole, String head) {
        int from = whole.indexOf(head);
        int end = from < 0 ? -1 : whole.indexOf("\n## ", from + 1);
        String section = end < 0 ? "" : whole.substring(from + head.length(), end);
        // A promise begins behind its call's face.
        section = section.substring(section.startsWith(" ") ? section.indexOf("`: ") + 3 : 0);
        SECTIONS.add(section.replaceAll("\\s+", " "));
        QUOTED.add(new boolean[section.length()]);
    }

    static void edge(int number, String quote) {
        promise = number;
        words = quote;
        PROMISES.add(number);
        if (SECTIONS.isEmpty()) {
            return;
        }
        boolean found = mark(number, quote);
        found |= mark(0, quote);
        if (!found) {
            fail("the document does not say so");
        }
    }

    private static boolean mark(int section, String quote) {
        int from = SECTIONS.get(section).indexOf(quote);
        boolean found = from >= 0;
        while (from >= 0) {
            for (int i = from; i < from + quote.length(); i++) {
                QUOTED.get(section)[i] = true;
            }
            from = SECTIONS.get(section).indexOf(quote, from + 1);
        }
        return found;
    }

    static int promiseOfEdge() {
        return promise;
    }

    /** Every boundary case that the document names is quoted by some test; every promise has one. */
    static void closeDocument() {
        for (int section = 0; section < SECTIONS.size(); section++) {
            Matcher matcher = MARKS.matcher(SECTIONS.get(section));
            while (matcher.find()) {
                if (!QUOTED.get(section)[matcher.start()]) {
                    promise = section;
                    String text = SECTIONS.get(section);
                    words = text.substring(Math.max(0, matcher.start() - 30), Math.min(text.length(), matcher.end() + 30));
                    fail("no test is about this");
                }
            }
        }
        for (int number = 1; number <= 41; number++) {
            if (!PROMISES.contains(number)) {
                promise = number;
                words = "";
                fail("no test is about this promise");
            }
        }
    }

    // ---- answers

    static void fail(String what) {
        wrong++;
        System.out.println("promise " + promise + ", \"" + words + "\": " + what);
    }

    static int wrongOnes() {
        return wrong;
    }

    static void due(String call, long got, long want) {
        if (got != want) {
            fail(call + " answered " + got + ", due is " + want);
        }
    }

    static void due(String call, boolean got, boolean want) {
        due(call, got ? 1 : 0, want ? 1 : 0);
    }

    static void dueFault(String text, int fault, int place) {
        SaintTheft x = new SaintTheft();
        due("read of \"" + text + "\"", Texts.read(x, text), fault);
        due("place in \"" + text + "\"", x.place(), place);
    }

    static void dueRight(String text) {
        dueFault(text, 0, -1);
    }

    /** One call with each number that is out of the question: the one behind the last, and far-off ones. */
    static void dueForOthers(String call, int behindLast, int want, ToIntFunction<Integer> answer) {
        due(call + " of " + behindLast, answer.applyAsInt(behindLast), want);
        for (int number : FAR_OFF) {
            due(call + " of " + number, answer.applyAsInt(number), want);
        }
    }

    /** All that can be seen of an object without changing it. */
    static String seen(SaintTheft x) {
        StringBuilder all = new StringBuilder();
        for (int what = 0; what <= 15; what++) {
            all.append(' ').append(x.count(what));
        }
        for (int church = 0; church < x.count(0); church++) {
            all.append("; church");
            for (int what = 0; what <= 4; what++) {
                all.append(' ').append(x.church(church, what));
            }
        }
        for (int relic = 0; relic < x.count(2); relic++) {
            all.append("; relic");
            for (int what = 0; what <= 3; what++) {
                all.append(' ').append(x.relic(relic, what));
            }
        }
        for (int pilgrim = 0; pilgrim < x.count(3); pilgrim++) {
            all.append("; pilgrim");
            for (int what = 0; what <= 4; what++) {
                all.append(' ').append(x.pilgrim(pilgrim, what));
            }
        }
        for (int k = 0; k <= x.count(12); k++) {
            all.append("; whose ").append(x.whose(k, 1));
        }
        return all.append("; place ").append(x.place()).toString();
    }

    static void dueSame(String call, SaintTheft x, String before) {
        String after = seen(x);
        if (!after.equals(before)) {
            fail(call + ": all was\n " + before + "\nand is\n " + after);
        }
    }
}
