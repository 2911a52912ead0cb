import java.util.Arrays;

/** What the tests share: findings and kinds by their names, shires by rows, answers held against those that are due. */
class Checks {
    static final int BEYOND = -1000001;
    static final int FULL = -1000002;
    static final int KIND = -1000003;
    static final int NONE = -1000004;
    static final int STATE = -1000005;
    static final int MISSING = -1000006;
    static final int SIZE = -1000007;

    static final int MIN = Integer.MIN_VALUE;
    static final int MAX = Integer.MAX_VALUE;

    static final int HILL = 0;
    static final int RIDGE = 1;
    static final int PARTNER = 2;
    static final int TWIN = 3;
    static final int FEUD = 4;
    static final int STONE = 5;
    static final int SCARP = 6;

    /** The promise that is tested, and those of its words that are; 0: what stands ahead of the promises. */
    static int promise = 0;
    static String sentence = "";

    private static int wrong = 0;

    static void fail(String what) {
        wrong++;
        System.out.println("promise " + promise + (sentence.isEmpty() ? "" : " '" + sentence + "'") + ": " + what);
    }

    static void due(String call, long got, long want) {
        if (got != want) {
            fail(call + " answered " + got + ", due is " + want);
        }
    }

    static void end() {
        System.out.println(wrong == 0 ? "all answers are as due" : wrong + " answers are not as due");
        if (wrong != 0) {
            System.exit(1);
        }
    }

    static int[] row(int... numbers) {
        return numbers;
    }

    static HillDance with(int... kindsAndValleys) {
        HillDance x = new HillDance();
        for (int i = 0; i + 1 < kindsAndValleys.length; i += 2) {
            x.hill(kindsAndValleys[i], kindsAndValleys[i + 1]);
        }
        return x;
    }

    /** A shire of rain and of hills, each told by kind, valley, step, turn and height. */
    static HillDance shire(int rain, int[]... hills) {
        HillDance x = new HillDance();
        x.rain(rain);
        for (int h = 0; h < hills.length; h++) {
            x.hill(hills[h][0], hills[h][1]);
            for (int what = 2; what < 5; what++) {
                x.change(h, what, hills[h][what]);
            }
        }
        return x;
    }

    static void feedText(HillDance x, String text) {
        for (int i = 0; i < text.length(); i++) {
            x.feed(text.charAt(i), 1);
        }
    }

    /** What the text answers in a new shire: items, or -1 less its fault; a fault changes nothing and is no finding. */
    static void dueText(String text, int want) {
        HillDance x = new HillDance();
        feedText(x, text);
        due("text of '" + text + "'", x.text(), want);
        due("tape behind '" + text + "'", x.count(5), 0);
        due("findings behind '" + text + "'", x.status(-1), 0);
        if (want < 0) {
            due("hills behind '" + text + "'", x.count(1), 0);
            due("rain behind '" + text + "'", x.rain(0), 2);
        }
    }

    static void fillSheet(HillDance x, int s, int bits, int... numbers) {
        x.sheet(s, bits, numbers.length);
        for (int i = 0; i < numbers.length; i++) {
            x.write(s, i, numbers[i]);
        }
    }

    /** How many steps fit a number in a sheet of so many bits: 11 if it is read as any, none if as no valley. */
    static int fitsWhenWritten(int bits, int v) {
        HillDance x = with(STONE, 3);
        fillSheet(x, 0, bits, v);
        return x.fits(0, 0);
    }

    /** A call by its name. */
    static long call(HillDance x, String name, int... args) {
        Class<?>[] types = new Class<?>[args.length];
        Arrays.fill(types, int.class);
        Object[] boxed = Arrays.stream(args).boxed().toArray();
        try {
            return ((Number) HillDance.class.getMethod(name, types).invoke(x, boxed)).longValue();
        } catch (ReflectiveOperationException e) {
            throw new IllegalStateException(name, e);
        }
    }

    static String told(String name, int... args) {
        String list = Arrays.toString(args);
        return name + "(" + list.substring(1, list.length() - 1) + ")";
    }
}
