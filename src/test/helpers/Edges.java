import java.io.IOException;
import java.nio.file.Files;
import java.nio.file.Path;
import java.util.ArrayList;
import java.util.Arrays;
import java.util.List;
import java.util.TreeMap;
import java.util.function.Supplier;
import java.util.regex.Matcher;
import java.util.regex.Pattern;

/** What the tests of the document's boundary sentences share: the sentences themselves, and calls that are refused. */
class Edges extends Checks {
    private static final Path DOCUMENT = Path.of("../shared/DOC.md");
    /** Words by which a sentence names a boundary case. */
    private static final Pattern EDGE = Pattern.compile("\\b(BEYOND|FULL|NONE|STATE|MISSING|SIZE)\\b|KIND:"
        + "|-?\\d+ to -?\\d+|at most|at least|\\b(least|most|fewest|soonest|lowest|latest)\\b|\\bempty\\b|nothing"
        + "|likewise|above \\d+|below \\d+|\\(by \\d+\\)|by \\d+\\)|\\(cut\\)|one and the same|at first|in a ring");

    private static final TreeMap<Integer, List<String>> SAID = new TreeMap<>();

    /** Begins the test of some of the words of the promise that is tested. */
    static void says(String words) {
        sentence = words;
        SAID.computeIfAbsent(promise, p -> new ArrayList<>()).add(words);
    }

    /** The words that were tested stand in the document, and no boundary case of these promises is left over. */
    static void nothingIsLeftOver(int first, int last) throws IOException {
        sentence = "";
        if (!Files.exists(DOCUMENT)) {
            System.out.println("there is no " + DOCUMENT + ": the tested words are not looked up in it");
            return;
        }
        TreeMap<Integer, String> parts = parts(Files.readString(DOCUMENT));
        for (promise = first; promise <= last; promise++) {
            String left = parts.getOrDefault(promise, "");
            for (String words : SAID.getOrDefault(promise, List.of())) {
                int at = left.indexOf(words);
                if (at < 0) {
                    fail("the document does not say '" + words + "'");
                } else {
                    left = left.substring(0, at) + "|" + left.substring(at + words.length());
                }
            }
            Matcher m = EDGE.matcher(left);
            while (m.find()) {
                fail("no test tells of '" + left.substring(Math.max(0, m.start() - 40), m.end()) + "'");
            }
        }
    }

    /** The document's words by promise, with single blanks; the terms are promise 0. */
    private static TreeMap<Integer, String> parts(String document) {
        TreeMap<Integer, String> parts = new TreeMap<>();
        for (String part : document.split("(?m)^## ")) {
            Matcher m = Pattern.compile("Promise (\\d+): .*").matcher(part.lines().findFirst().orElse(""));
            boolean isTerm = part.startsWith("Terms") || part.startsWith("What it is");
            if (m.matches() || isTerm) {
                int number = isTerm ? 0 : Integer.parseInt(m.group(1));
                // The tale ahead of it all promises nothing by itself.
                String words = part.replaceFirst("(?m)^Hills change partners:.*$", "").replaceAll("\\s+", " ");
                parts.merge(number, words, (a, b) -> a + " " + b);
            }
        }
        return parts;
    }

    /** Something of each sort: 3 hills, 2 spots that hold one, a text, an older image, sheets 0 to 2; sheet 3 isn't. */
    static HillDance usual() {
        HillDance x = shire(4, row(TWIN, 3, 2, 1, 60), row(PARTNER, 4, -1, 3, 20), row(STONE, 9, 1, 0, 50));
        fillRest(x);
        return x;
    }

    /** As usual, with 8 hills. */
    static HillDance crowded() {
        HillDance x = usual();
        for (int i = 3; i < 8; i++) {
            x.hill(i - 3, i);
        }
        return x;
    }

    private static void fillRest(HillDance x) {
        x.image();
        x.go(7);
        x.seed(99);
        x.hold(0, 0);
        x.hold(9, 2);
        fillSheet(x, 0, 8, 30, 31, 32, 33, 34);
        fillSheet(x, 1, 16, 40, 41, 42, 43);
        fillSheet(x, 2, 8, 50, 51);
        feedText(x, "rain 7");
    }

    /** All that calls can tell of an object but what status() counts; it is used up by that. */
    static List<Long> allOf(HillDance x) {
        List<Long> all = new ArrayList<>(shireOf(x));
        for (int s = 0; s < 4; s++) {
            for (int i = 0; i < 6; i++) {
                all.add((long) x.copy(s, i, s, 0, 1));
                all.add((long) x.load(s));
                all.add((long) x.of(0, 4));
            }
        }
        all.add((long) x.text());
        all.add((long) x.rain(0));
        all.add((long) x.undo());
        all.addAll(shireOf(x));
        all.add((long) x.tear());
        return all;
    }

    /** What an image keeps, and how long the tape is. */
    static List<Long> shireOf(HillDance x) {
        List<Long> all = new ArrayList<>();
        for (int what = 0; what < 8; what++) {
            all.add((long) x.count(what));
        }
        for (int h = 0; h < x.count(1); h++) {
            for (int what = 0; what < 6; what++) {
                all.add((long) x.of(h, what));
            }
        }
        for (int spot = 0; spot < 10; spot++) {
            all.add((long) x.as(spot, HILL));
        }
        int rain = x.rain(0);
        x.rain(rain);
        all.add((long) rain);
        return all;
    }

    static void dueSame(String what, List<Long> got, List<Long> want) {
        if (!got.equals(want)) {
            fail(what + ": " + got + ", due is " + want);
        }
    }

    private static int[] statuses(HillDance x) {
        int[] all = new int[8];
        for (int which = -1; which < 7; which++) {
            all[which + 1] = x.status(which);
        }
        return all;
    }

    /** The call answers the finding, which is counted once, and changes nothing else. */
    static void refused(Supplier<HillDance> made, int finding, String name, int... args) {
        HillDance x = made.get();
        int[] counted = statuses(x);
        due(told(name, args), call(x, name, args), finding);
        counted[0]++;
        counted[1 + BEYOND - finding]++;
        if (!Arrays.equals(statuses(x), counted)) {
            fail(told(name, args) + ": status " + Arrays.toString(statuses(x)) + ", due is " + Arrays.toString(counted));
        }
        dueSame(told(name, args) + " changed something", allOf(x), allOf(made.get()));
    }

    static void refused(int finding, String name, int... args) {
        refused(Edges::usual, finding, name, args);
    }

    /** The call is answered, without a finding or with one, and changes nothing but what status() counts. */
    static void quiet(Supplier<HillDance> made, String name, int... args) {
        HillDance x = made.get();
        call(x, name, args);
        dueSame(told(name, args) + " changed something", allOf(x), allOf(made.get()));
    }

    /** With good arguments but for one: its least and its most are taken; what is below and above them is BEYOND. */
    static void within(String name, int[] good, int at, int least, int most) {
        for (int v : new int[] {least, most}) {
            HillDance x = usual();
            int[] args = changed(good, at, v);
            call(x, name, args);
            due(told(name, args) + ", status(0) behind it", x.status(0), 0);
        }
        for (int v : new int[] {least - 1, most + 1, MIN, MAX}) {
            refused(BEYOND, name, changed(good, at, v));
        }
    }

    private static int[] changed(int[] good, int at, int v) {
        int[] args = good.clone();
        args[at] = v;
        return args;
    }
}
