// Each promise of ../shared/DOC.md by hand-worked answers: ordinary inputs, edges, wrong inputs.
public final class PromiseTest extends Checks {
    private static void newObject() {
        promise = 1;
        HillDance x = new HillDance();
        for (int what = 0; what < 8; what++) {
            due("count(" + what + ")", x.count(what), what == 6 ? 1 : 0);
        }
        for (int what = 0; what < 6; what++) {
            due("now(" + what + ")", x.now(what), 0);
        }
        for (int which = -1; which < 7; which++) {
            due("status(" + which + ")", x.status(which), 0);
        }
        due("of(0, 0)", x.of(0, 0), BEYOND);
        due("rain", x.rain(2), 2);
        due("undo", x.undo(), NONE);
        due("tear", x.tear(), 0);
        due("wipe", x.wipe(), 0);
        for (int spot = 0; spot < 10; spot++) {
            due("as(" + spot + ", 0)", x.as(spot, 0), MISSING);
        }
        for (int s = 0; s < 4; s++) {
            due("judge(" + s + ")", x.judge(s), MISSING);
        }
    }

    private static void rain() {
        promise = 2;
        HillDance x = new HillDance();
        due("rain(9)", x.rain(9), 2);
        due("rain(10)", x.rain(10), BEYOND);
        due("rain(-1)", x.rain(-1), BEYOND);
        due("rain(MIN)", x.rain(MIN), BEYOND);
        due("rain(MAX)", x.rain(MAX), BEYOND);
        due("rain(0)", x.rain(0), 9);
        due("rain(5)", x.rain(5), 0);
        due("status(0)", x.status(0), 4);
    }

    private static void hill() {
        promise = 3;
        HillDance x = new HillDance();
        due("hill(-1, 0)", x.hill(-1, 0), BEYOND);
        due("hill(7, 0)", x.hill(7, 0), BEYOND);
        due("hill(0, -1)", x.hill(0, -1), BEYOND);
        due("hill(0, 12)", x.hill(0, 12), BEYOND);
        due("hill(MIN, MAX)", x.hill(MIN, MAX), BEYOND);
        due("count(1)", x.count(1), 0);
        for (int i = 0; i < 8; i++) {
            int kind = i % 7;
            due("hill no. " + i, x.hill(kind, i + 4), i);
            int[] fresh = {kind, i + 4, 1, 0, 50, 0, i + 4};
            for (int what = 0; what < fresh.length; what++) {
                due("of(" + i + ", " + what + ")", x.of(i, what), fresh[what]);
            }
        }
        due("a 9th", x.hill(0, 0), FULL);
        due("a 9th beyond", x.hill(0, 12), BEYOND);
        due("count(1)", x.count(1), 8);
        due("status(1)", x.status(1), 1);
    }

    private static void of() {
        promise = 4;
        HillDance x = with(HILL, 11, STONE, 0);
        int[] faces = {11, 0, 5, 10};
        for (int turn = 0; turn < 4; turn++) {
            x.change(0, 3, turn);
            due("faces by turn " + turn, x.of(0, 6), faces[turn]);
            due("turn " + turn, x.of(0, 3), turn);
        }
        ofByKind();
        ofMeets();
        int[][] bad = {{-1, 0}, {2, 0}, {0, -1}, {0, 11}, {MIN, 0}, {MAX, 0}, {0, MIN}, {0, MAX}};
        for (int[] args : bad) {
            due("of(" + args[0] + ", " + args[1] + ")", x.of(args[0], args[1]), BEYOND);
        }
        due("status(0)", x.status(0), bad.length);
    }

    private static void ofByKind() {
        // Alone and no higher than 50, then higher; then with two more at its valley, one of which it meets.
        int[] moves = {3, 6, 3, 3, -3, 0, 6};
        int[] movesHigh = {3, 6, 3, 3, -3, 0, 7};
        int[] movesMet = {3, 6, 0, 2, -2, 0, 7};
        int[] turns = {1, 0, 1, 1, 3, 0, 2};
        int[] turnsHigh = {1, 0, 1, 2, 6, 0, 2};
        int[] sinks = {1, 4, 5, 2, 2, 0, 5};
        HillDance x = with(HILL, 5, STONE, 9, STONE, 9);
        x.change(0, 2, 3);
        x.rain(4);
        for (int kind = 0; kind < 7; kind++) {
            x.change(0, 0, kind);
            x.change(0, 1, 5);
            x.change(0, 4, 50);
            due("moves of kind " + kind, x.of(0, 7), moves[kind]);
            due("turns of kind " + kind, x.of(0, 8), turns[kind]);
            due("sinks of kind " + kind, x.of(0, 9), sinks[kind]);
            x.change(0, 4, 51);
            due("moves of high kind " + kind, x.of(0, 7), movesHigh[kind]);
            due("turns of high kind " + kind, x.of(0, 8), turnsHigh[kind]);
            x.change(0, 1, 9);
            x.change(2, 3, 1);
            due("moves of kind " + kind + " that meets", x.of(0, 7), movesMet[kind]);
        }
    }

    private static void ofMeets() {
        HillDance x = with(STONE, 4, STONE, 4, STONE, 5, STONE, 10);
        due("two at one valley", x.of(0, 10), 2);
        due("two at one valley, back", x.of(1, 10), 1);
        due("another one", x.of(2, 10), 0);
        x.change(0, 3, 1);
        due("faces on, isn't faced", x.of(0, 10), 0);
        x.change(2, 3, 3);
        due("on and back", x.of(0, 10), 4);
        due("back and on", x.of(2, 10), 1);
        x.change(1, 3, 1);
        due("one meets two", x.of(2, 10), 3);
        x.change(0, 3, 2);
        x.change(3, 3, 2);
        due("across", x.of(0, 10), 8);
        due("across, back", x.of(3, 10), 1);
    }

    private static void change() {
        promise = 5;
        int[] least = {0, 0, -5, 0, 0, 0};
        int[] most = {6, 11, 5, 3, 99, 9999};
        int[] first = {0, 7, 1, 0, 50, 0};
        HillDance x = with(STONE, 1, HILL, 7);
        for (int what = 0; what < 6; what++) {
            due("change least of " + what, x.change(1, what, least[what]), first[what]);
            due("change most of " + what, x.change(1, what, most[what]), least[what]);
            due("below " + what, x.change(1, what, least[what] - 1), BEYOND);
            due("above " + what, x.change(1, what, most[what] + 1), BEYOND);
            due("far below " + what, x.change(1, what, MIN), BEYOND);
            due("far above " + what, x.change(1, what, MAX), BEYOND);
            due("of " + what, x.of(1, what), most[what]);
        }
        due("change(2, 1, 0)", x.change(2, 1, 0), BEYOND);
        due("change(-1, 1, 0)", x.change(-1, 1, 0), BEYOND);
        due("change(0, 6, 0)", x.change(0, 6, 0), BEYOND);
        due("change(0, -1, 0)", x.change(0, -1, 0), BEYOND);
        due("the other one's kind", x.of(0, 0), STONE);
        due("the other one's valley", x.of(0, 1), 1);
        due("status(0)", x.status(0), 28);
    }

    private static void valley() {
        promise = 6;
        HillDance x = with(STONE, 3, STONE, 3, STONE, 4);
        x.change(2, 3, 3);
        x.change(0, 4, 0);
        x.change(1, 4, 7);
        due("valley(3, 0)", x.valley(3, 0), 3);
        due("valley(3, 1)", x.valley(3, 1), 7);
        due("valley(3, 2)", x.valley(3, 2), 7);
        due("valley(4, 0)", x.valley(4, 0), 4);
        due("valley(4, 1)", x.valley(4, 1), 0);
        due("valley(4, 2)", x.valley(4, 2), 50);
        due("valley(11, 0)", x.valley(11, 0), 0);
        due("valley(11, 2)", x.valley(11, 2), -1);
        x.change(1, 1, 0);
        due("height 0 is one", x.valley(3, 2), 0);
        int[][] bad = {{-1, 0}, {12, 0}, {0, -1}, {0, 3}, {MIN, 0}, {0, MAX}};
        for (int[] args : bad) {
            due("valley(" + args[0] + ", " + args[1] + ")", x.valley(args[0], args[1]), BEYOND);
        }
    }

    private static void go() {
        promise = 7;
        HillDance x = with(PARTNER, 4, STONE, 4);
        due("go(1)", x.go(1), 0);
        due("a partner that met stays", x.of(0, 1), 4);
        due("and turns", x.of(0, 3), 1);
        due("and sinks", x.of(0, 4), 47);
        due("and bowed", x.of(0, 5), 1);
        due("a stone doesn't sink", x.of(1, 4), 50);
        due("but bows", x.of(1, 5), 1);
        due("go(1) again", x.go(1), 0);
        due("it goes on", x.of(0, 1), 5);
        due("rises", x.of(0, 4), 48);
        due("the stone rises", x.of(1, 4), 51);
        due("bowed stays", x.of(0, 5), 1);
        due("go(60)", x.go(60), 0);
        due("age", x.now(0), 62);
        due("99 at most", x.of(1, 4), 99);
        due("go(0)", x.go(0), BEYOND);
        due("go(61)", x.go(61), BEYOND);
        due("go(MIN)", x.go(MIN), BEYOND);
        due("go(MAX)", x.go(MAX), BEYOND);
        due("age", x.now(0), 62);
        goLimits();
        goAllAtOnce();
    }

    private static void goLimits() {
        HillDance x = with(RIDGE, 4, STONE, 4);
        x.rain(9);
        x.change(0, 2, 0);
        x.change(0, 4, 10);
        x.change(0, 5, 9998);
        due("two meet still", x.go(1), 2);
        due("less by 9", x.of(0, 4), 1);
        due("9999", x.of(0, 5), 9999);
        x.go(1);
        due("0 at least", x.of(0, 4), 0);
        due("9999 at most", x.of(0, 5), 9999);
        x.go(1);
        due("stays 0", x.of(0, 4), 0);
        HillDance y = with(HILL, 2, FEUD, 11, HILL, 0);
        y.change(0, 2, -5);
        y.change(2, 2, 5);
        y.go(1);
        due("back over 0", y.of(0, 1), 9);
        due("a feud goes back", y.of(1, 1), 10);
        due("a feud turns by 3", y.of(1, 3), 3);
        due("on", y.of(2, 1), 5);
        y.go(4);
        due("over 11", y.of(2, 1), 1);
        due("turns by 4", y.of(2, 3), 1);
    }

    private static void goAllAtOnce() {
        // Hill 0 leaves the valley in the same age in which twins 1 and 2 count who is there.
        HillDance x = with(HILL, 6, TWIN, 6, TWIN, 6);
        x.change(1, 3, 1);
        x.change(2, 3, 1);
        x.change(0, 4, 50);
        due("go(1)", x.go(1), 0);
        due("the hill", x.of(0, 1), 7);
        due("twin 1 counts both", x.of(1, 1), 9);
        due("twin 2 counts both", x.of(2, 1), 9);
        HillDance y = with(PARTNER, 4, PARTNER, 4);
        due("partners", y.go(1), 0);
        due("both stayed", y.now(3), 16);
        due("both bowed", y.now(5), 2);
        due("both sank", y.now(1), 94);
    }

    private static void now() {
        promise = 8;
        HillDance x = with(STONE, 4, STONE, 4, STONE, 9);
        x.change(2, 3, 1);
        x.change(1, 4, 20);
        x.change(1, 5, 30);
        x.change(2, 5, 4);
        due("now(0)", x.now(0), 0);
        due("now(1)", x.now(1), 120);
        due("now(2)", x.now(2), 3);
        due("now(3)", x.now(3), 1 << 4 | 1 << 9);
        due("now(4)", x.now(4), 1 << 4 | 1 << 10);
        due("now(5)", x.now(5), 34);
        x.change(2, 1, 11);
        due("valley 0 is faced", x.now(4), 1 << 4 | 1);
        x.change(0, 1, 0);
        due("valley 0 has a hill", x.now(3), 1 << 4 | 1 << 11 | 1);
        x.change(0, 1, 4);
        x.go(3);
        due("now(0)", x.now(0), 3);
        due("now(5)", x.now(5), 40);
        for (int what : new int[] {-1, 6, MIN, MAX}) {
            due("now(" + what + ")", x.now(what), BEYOND);
        }
        due("status(0)", x.status(0), 4);
    }

    private static void ahead() {
        promise = 9;
        HillDance x = with(HILL, 3);
        int[] faces = {3, 5, 11, 5, 7, 9, 3, 9, 11, 1, 7, 1, 3};
        for (int n = 0; n < faces.length; n++) {
            due("ahead(0, 1, " + n + ")", x.ahead(0, 1, n), (3 + n) % 12);
            due("ahead(0, 3, " + n + ")", x.ahead(0, 3, n), n % 4);
            due("ahead(0, 4, " + n + ")", x.ahead(0, 4, n), 50 + n);
            due("ahead(0, 6, " + n + ")", x.ahead(0, 6, n), faces[n]);
        }
        due("ahead(0, 1, 100)", x.ahead(0, 1, 100), 7);
        due("ahead(0, 4, 100)", x.ahead(0, 4, 100), 99);
        HillDance y = with(STONE, 4, STONE, 4);
        due("bowed", y.ahead(0, 5, 100), 100);
        due("bowed now", y.ahead(0, 5, 0), 0);
        due("nothing changes", x.now(0), 0);
        due("nothing changes", x.of(0, 1), 3);
        int[][] bad = {{1, 1, 0}, {-1, 1, 0}, {0, 0, 0}, {0, 2, 0}, {0, 7, 0}, {0, -1, 0}, {0, 1, -1},
            {0, 1, 101}, {MAX, 1, 0}, {0, MIN, 0}, {0, 1, MAX}};
        for (int[] a : bad) {
            due("ahead(" + a[0] + ", " + a[1] + ", " + a[2] + ")", x.ahead(a[0], a[1], a[2]), BEYOND);
        }
        due("status(0)", x.status(0), bad.length);
    }

    private static void when() {
        promise = 10;
        HillDance x = with(HILL, 3);
        int[] want = {NONE, 9, NONE, 0, NONE, 1, NONE, 4, NONE, 5, NONE, 2};
        for (int v = 0; v < 12; v++) {
            due("when(0, " + v + ")", x.when(0, v), want[v]);
        }
        due("nothing changes", x.now(0), 0);
        int[][] bad = {{1, 0}, {-1, 0}, {0, -1}, {0, 12}, {MIN, 0}, {0, MAX}};
        for (int[] a : bad) {
            due("when(" + a[0] + ", " + a[1] + ")", x.when(a[0], a[1]), BEYOND);
        }
        due("status(3)", x.status(3), 6);
        due("status(0)", x.status(0), bad.length);
    }

    private static void meet() {
        promise = 11;
        HillDance x = with(STONE, 8, STONE, 8, HILL, 4, STONE, 1);
        due("meet(0, 1)", x.meet(0, 1), 0);
        due("meet(0, 2)", x.meet(0, 2), 4);
        due("meet(2, 0)", x.meet(2, 0), 4);
        due("meet(0, 3)", x.meet(0, 3), NONE);
        due("meet(2, 3)", x.meet(2, 3), NONE);
        due("nothing changes", x.now(0), 0);
        int[][] bad = {{0, 0}, {0, 4}, {4, 0}, {-1, 0}, {0, -1}, {MAX, MIN}};
        for (int[] a : bad) {
            due("meet(" + a[0] + ", " + a[1] + ")", x.meet(a[0], a[1]), BEYOND);
        }
        due("status(3)", x.status(3), 2);
    }

    private static void round() {
        promise = 12;
        due("no hills", new HillDance().round(), 1);
        due("a stone", with(STONE, 5).round(), 1);
        due("a hill", with(HILL, 5).round(), 12);
        due("a ridge", with(RIDGE, 5).round(), 6);
        HillDance still = with(HILL, 5);
        still.change(0, 2, 0);
        due("turns too", still.round(), 4);
        // The partner turns in each age but stood still in the first one, so it never is at 4 with turn 0 again.
        HillDance x = with(PARTNER, 4, STONE, 4);
        due("never", x.round(), NONE);
        due("nothing changes", x.now(0), 0);
        due("status(3)", x.status(3), 1);
    }

    private static void skylines() {
        promise = 13;
        HillDance x = with(HILL, 3);
        due("skylines(3, 0)", x.skylines(3, 0), 0);
        due("skylines(3, 1)", x.skylines(3, 1), 1);
        due("skylines(5, 1)", x.skylines(5, 1), 0);
        due("skylines(5, 4)", x.skylines(5, 4), 2);
        due("skylines(3, 12)", x.skylines(3, 12), 2);
        due("skylines(3, 13)", x.skylines(3, 13), 3);
        x.hill(STONE, 5);
        due("two of them are one skyline", x.skylines(5, 200), 200);
        due("nothing changes", x.now(0), 0);
        int[][] bad = {{-1, 0}, {12, 0}, {0, -1}, {0, 201}, {MAX, 0}, {0, MIN}};
        for (int[] a : bad) {
            due("skylines(" + a[0] + ", " + a[1] + ")", x.skylines(a[0], a[1]), BEYOND);
        }
    }

    private static void wallflowers() {
        promise = 14;
        HillDance x = with(PARTNER, 4, STONE, 4, STONE, 9, HILL, 5);
        due("wallflowers(0)", x.wallflowers(0), 15);
        due("wallflowers(1)", x.wallflowers(1), 12);
        // The hill is at 9 with turn 0 behind 4 ages, so the fifth age is danced by it and stone 2.
        due("wallflowers(4)", x.wallflowers(4), 12);
        due("wallflowers(5)", x.wallflowers(5), 0);
        due("wallflowers(200)", x.wallflowers(200), 0);
        due("nothing changes", x.now(0), 0);
        HillDance last = with(HILL, 4, STONE, 8, STONE, 8);
        due("hill 0 alone is left", last.wallflowers(4), 1);
        due("until it comes to the stones", last.wallflowers(5), 0);
        for (int n : new int[] {-1, 201, MIN, MAX}) {
            due("wallflowers(" + n + ")", x.wallflowers(n), BEYOND);
        }
    }

    private static void stand() {
        promise = 15;
        HillDance x = with(STONE, 0, STONE, 7, HILL, 0);
        x.change(2, 3, 1);
        due("stand(0, 1)", x.stand(0, 1), 7);
        due("stand(1, 0)", x.stand(1, 0), 0);
        due("it turns to 0 behind 3 ages", x.stand(2, 1), 4);
        x.change(0, 3, 1);
        due("never", x.stand(0, 1), NONE);
        due("nothing changes", x.of(0, 1), 0);
        pairsBeyond("stand", x, 1);
        // The ridge comes to the stone's valley in one age, but at 6 they meet now.
        HillDance y = with(STONE, 0, RIDGE, 6);
        y.change(1, 2, 3);
        due("soonest is now", y.stand(0, 1), 6);
    }

    private static void pairsBeyond(String name, HillDance x, int nonesBefore) {
        int[][] bad = {{0, 0}, {2, 2}, {-1, 0}, {0, -1}, {3, 0}, {0, 3}, {MIN, 0}, {0, MAX}};
        int before = x.status(0);
        for (int[] a : bad) {
            int got = name.equals("stand") ? x.stand(a[0], a[1])
                : name.equals("stepFor") ? x.stepFor(a[0], a[1]) : x.turnFor(a[0], a[1]);
            due(name + "(" + a[0] + ", " + a[1] + ")", got, BEYOND);
        }
        due("status(0)", x.status(0), before + bad.length);
        due("status(3)", x.status(3), nonesBefore);
    }

    private static void stepFor() {
        promise = 16;
        HillDance x = with(HILL, 0, STONE, 8, STONE, 5);
        due("least of -4, -1, 2 and 5", x.stepFor(0, 1), -4);
        x.change(0, 3, 3);
        due("one age on, by 5", x.stepFor(0, 2), 5);
        due("by -4", x.stepFor(0, 1), -4);
        x.change(0, 1, 5);
        x.change(0, 3, 0);
        due("now, with any", x.stepFor(0, 2), -5);
        due("stones don't", x.stepFor(1, 2), NONE);
        due("nothing changes", x.of(0, 2), 1);
        pairsBeyond("stepFor", x, 1);
    }

    private static void turnFor() {
        promise = 17;
        HillDance x = with(HILL, 7, STONE, 8, STONE, 3);
        due("0 behind one age", x.turnFor(0, 1), 3);
        x.change(0, 1, 8);
        x.change(0, 3, 2);
        due("0 now", x.turnFor(0, 1), 0);
        x.change(1, 3, 2);
        x.change(2, 1, 2);
        due("across", x.turnFor(2, 1), 2);
        x.change(2, 1, 9);
        due("never", x.turnFor(2, 1), NONE);
        due("nothing changes", x.of(2, 3), 0);
        pairsBeyond("turnFor", x, 1);
    }

    private static void kindFor() {
        promise = 18;
        HillDance x = with(HILL, 4, STONE, 4);
        due("none bowed", x.kindFor(0, 0), 0);
        due("all bowed once", x.kindFor(0, 1), 0);
        due("a stone stays", x.kindFor(0, 3), STONE);
        x.change(0, 2, 0);
        due("so does a ridge of step 0", x.kindFor(0, 3), RIDGE);
        x.change(0, 5, 9999);
        due("all bowed 9999 times", x.kindFor(0, 60), 0);
        due("nothing changes", x.of(0, 0), HILL);
        int[][] bad = {{-1, 0}, {2, 0}, {0, -1}, {0, 61}, {MAX, 0}, {0, MIN}};
        for (int[] a : bad) {
            due("kindFor(" + a[0] + ", " + a[1] + ")", x.kindFor(a[0], a[1]), BEYOND);
        }
    }

    private static void rainFor() {
        promise = 19;
        HillDance x = with(PARTNER, 4, STONE, 4);
        due("rainFor(0, 45, 1)", x.rainFor(0, 45, 1), 4);
        due("rainFor(0, 49, 1)", x.rainFor(0, 49, 1), 0);
        due("rainFor(0, 40, 1)", x.rainFor(0, 40, 1), 9);
        due("rainFor(0, 39, 1)", x.rainFor(0, 39, 1), NONE);
        due("rainFor(0, 46, 2)", x.rainFor(0, 46, 2), 4);
        due("rainFor(0, 50, 0)", x.rainFor(0, 50, 0), 0);
        due("rainFor(0, 49, 0)", x.rainFor(0, 49, 0), NONE);
        due("rainFor(0, 0, 1)", x.rainFor(0, 0, 1), NONE);
        x.change(0, 4, 6);
        due("down to 0", x.rainFor(0, 0, 1), 5);
        due("down to 0 is 0 at least", x.rainFor(0, 1, 2), 5);
        due("rainFor(0, 99, 60)", x.rainFor(0, 99, 60), 0);
        due("nothing changes", x.rain(2), 2);
        int[][] bad = {{-1, 0, 0}, {2, 0, 0}, {0, -1, 0}, {0, 100, 0}, {0, 0, -1}, {0, 0, 61}, {MIN, 0, 0},
            {0, MAX, 0}, {0, 0, MAX}};
        for (int[] a : bad) {
            due("rainFor(" + a[0] + ", " + a[1] + ", " + a[2] + ")", x.rainFor(a[0], a[1], a[2]), BEYOND);
        }
        due("status(3)", x.status(3), 3);
    }

    private static void road() {
        promise = 20;
        HillDance x = with(STONE, 3);
        due("no higher than 50", x.road(2, 4, 50), 2);
        due("back around", x.road(2, 4, 49), 10);
        due("from the other end", x.road(4, 2, 49), 10);
        x.hill(STONE, 9);
        x.change(1, 4, 80);
        due("none", x.road(2, 4, 49), NONE);
        due("over the lower one", x.road(2, 4, 50), 2);
        due("ends don't count", x.road(3, 9, 0), 6);
        due("neighbours", x.road(3, 2, 0), 1);
        due("neighbours over 0", x.road(11, 0, 0), 1);
        due("longer, over the lower one", x.road(8, 10, 79), 10);
        due("shorter, over the higher one", x.road(8, 10, 80), 2);
        due("one and the same", x.road(3, 3, 0), 0);
        int[][] bad = {{-1, 0, 0}, {12, 0, 0}, {0, -1, 0}, {0, 12, 0}, {0, 0, -1}, {0, 0, 100}, {0, 6, 100},
            {MIN, 0, 0}, {0, MAX, 0}};
        for (int[] a : bad) {
            due("road(" + a[0] + ", " + a[1] + ", " + a[2] + ")", x.road(a[0], a[1], a[2]), BEYOND);
        }
        due("status(3)", x.status(3), 1);
    }

    private static void climb() {
        promise = 21;
        HillDance x = with(STONE, 3, STONE, 9, STONE, 3);
        x.change(1, 4, 80);
        x.change(2, 4, 20);
        due("climb(2, 4)", x.climb(2, 4), 50);
        due("climb(4, 2)", x.climb(4, 2), 50);
        due("climb(8, 10)", x.climb(8, 10), 50);
        due("climb(3, 9)", x.climb(3, 9), 0);
        due("climb(2, 3)", x.climb(2, 3), 0);
        due("climb(2, 2)", x.climb(2, 2), 0);
        x.change(0, 4, 90);
        due("climb(2, 4)", x.climb(2, 4), 80);
        int[][] bad = {{-1, 0}, {12, 0}, {0, -1}, {0, 12}, {MAX, 0}, {0, MIN}};
        for (int[] a : bad) {
            due("climb(" + a[0] + ", " + a[1] + ")", x.climb(a[0], a[1]), BEYOND);
        }
    }

    private static void open() {
        promise = 22;
        HillDance x = with(RIDGE, 3, STONE, 9);
        x.change(1, 4, 80);
        due("open(2, 4, 40, 0)", x.open(2, 4, 40, 0), 0);
        due("open(2, 4, 40, 1)", x.open(2, 4, 40, 1), 0);
        due("open(2, 4, 40, 6)", x.open(2, 4, 40, 6), 5);
        due("open(2, 4, 40, 7)", x.open(2, 4, 40, 7), 5);
        due("open(2, 4, 50, 1)", x.open(2, 4, 50, 1), 1);
        due("open(4, 2, 40, 100)", x.open(4, 2, 40, 100), 83);
        due("open(3, 3, 0, 100)", x.open(3, 3, 0, 100), 100);
        due("nothing changes", x.now(0), 0);
        int[][] bad = {{-1, 0, 0, 0}, {12, 0, 0, 0}, {0, -1, 0, 0}, {0, 12, 0, 0}, {0, 0, -1, 0},
            {0, 0, 100, 0}, {0, 0, 0, -1}, {0, 0, 0, 101}, {MIN, 0, 0, 0}, {0, 0, 0, MAX}};
        for (int[] a : bad) {
            due("open(" + a[0] + ", " + a[1] + ", " + a[2] + ", " + a[3] + ")",
                x.open(a[0], a[1], a[2], a[3]), BEYOND);
        }
    }

    private static void lay() {
        promise = 23;
        HillDance x = with(RIDGE, 3, STONE, 9);
        x.change(1, 4, 80);
        due("behind 5 ages valley 1 was free", x.lay(2, 40, 5), 0);
        due("then the ridge is there", x.lay(2, 40, 6), 1);
        due("lay(2, 40, 0)", x.lay(2, 40, 0), 0);
        due("another one", x.lay(0, 99, 3), 1);
        due("all are open for 99", x.lay(4, 99, 60), 0);
        due("only neighbours always", x.lay(6, 0, 60), 5);
        due("nothing changes", x.now(0), 0);
        int[][] bad = {{-1, 0, 0}, {12, 0, 0}, {0, -1, 0}, {0, 100, 0}, {0, 0, -1}, {0, 0, 61}, {MAX, 0, 0}};
        for (int[] a : bad) {
            due("lay(" + a[0] + ", " + a[1] + ", " + a[2] + ")", x.lay(a[0], a[1], a[2]), BEYOND);
        }
    }

    private static void toldFindings(HillDance x) {
        int[][] beyond = {{-1, 0}, {4, 0}, {MIN, 9}, {4, 9}};
        for (int[] a : beyond) {
            toldFinding(x, a[0], a[1], BEYOND);
        }
        toldFinding(x, 3, 0, MISSING);
        toldFinding(x, 3, 9, MISSING);
        toldFinding(x, 0, -1, BEYOND);
        toldFinding(x, 0, 1, BEYOND);
        toldFinding(x, 0, MAX, BEYOND);
    }

    private static void toldFinding(HillDance x, int s, int hill, int want) {
        String args = "(" + s + ", " + hill + ")";
        due("fits" + args, x.fits(s, hill), want);
        due("step" + args, x.step(s, hill), want);
        due("kinds" + args, x.kinds(s, hill), want);
    }

    private static void whatWasFaced() {
        HillDance x = with(HILL, 3);
        x.sheet(0, 8, 0);
        promise = 24;
        due("an empty sheet", x.fits(0, 0), 11);
        promise = 25;
        due("an empty sheet", x.step(0, 0), -5);
        promise = 26;
        due("an empty sheet", x.kinds(0, 0), 127);
        toldFindings(x);
        toldFaces(x, 8);
        toldFaces(x, 16);
        toldFaces(x, 32);
        due("nothing changes", x.of(0, 0), HILL);
        due("nothing changes", x.of(0, 2), 1);
        due("nothing changes", x.now(0), 0);
    }

    private static void toldFaces(HillDance x, int bits) {
        fillSheet(x, 0, bits, 3, 5);
        promise = 24;
        due("3 and 5", x.fits(0, 0), 1);
        promise = 25;
        due("3 and 5", x.step(0, 0), 1);
        promise = 26;
        due("3 and 5", x.kinds(0, 0), 15);
        fillSheet(x, 0, bits, -1, -1, 11);
        promise = 24;
        due("any, any, 11", x.fits(0, 0), 2);
        promise = 25;
        due("any, any, 11", x.step(0, 0), -5);
        fillSheet(x, 0, bits, -1, 9);
        promise = 25;
        due("any, 9", x.step(0, 0), 5);
        fillSheet(x, 0, bits, 4, -1);
        promise = 24;
        due("not now", x.fits(0, 0), 0);
        promise = 25;
        due("not now", x.step(0, 0), NONE);
        promise = 26;
        due("not now", x.kinds(0, 0), 0);
        fillSheet(x, 0, bits, -2);
        promise = 24;
        due("-2 is no valley", x.fits(0, 0), 0);
        fillSheet(x, 0, bits, 15);
        due("15 is no valley", x.fits(0, 0), 0);
    }

    private static void rains() {
        promise = 27;
        // From z 1 the draws give rests 4 and 0, 6 and 3, 7 and 4.
        HillDance x = with(PARTNER, 4, STONE, 4);
        x.change(0, 3, 3);
        due("rains(1)", x.rains(1), 45 + 50);
        due("hill 0 turned to 0, met, turned", x.of(0, 3), 1);
        due("stayed", x.of(0, 1), 4);
        due("bowed", x.of(0, 5), 1);
        due("z", x.count(6), -1770082073);
        due("age", x.count(0), 1);
        due("rains(1)", x.rains(1), 46 + 51);
        due("no hill 3, only its age", x.of(0, 3), 2);
        due("z", x.count(6), -999580867);
        due("rain", x.rain(0), 6);
        for (int n : new int[] {0, 21, -1, MIN, MAX}) {
            due("rains(" + n + ")", x.rains(n), BEYOND);
        }
        due("z stays", x.count(6), -999580867);
        HillDance y = with(HILL, 0, HILL, 2, HILL, 4, HILL, 6);
        y.rains(2);
        due("rain", y.rain(6), 6);
        due("turn of 0", y.of(0, 3), 3);
        due("turn of 1", y.of(1, 3), 2);
        due("turn of 3", y.of(3, 3), 3);
        due("rains(20)", new HillDance().rains(20), 0);
    }

    private static void odds() {
        promise = 28;
        HillDance x = new HillDance();
        due("no hills, none drawn", x.odds(0, 0), 1);
        due("no hills, none drawn", x.odds(0, 1), 1);
        due("no hills", x.odds(3, 0), 0);
        due("no hills", x.odds(3, 1), 1);
        long[] above = {1, 1, 3, 1, 5, 3, 7, 1};
        long[] below = {8, 4, 8, 2, 8, 4, 8, 1};
        for (int i = 0; i < 8; i++) {
            x.hill(STONE, i);
            for (int n = 0; n <= 20; n += 10) {
                due((i + 1) + " alone, " + n + " above", x.odds(n, 0), power(above[i], n));
                due((i + 1) + " alone, " + n + " below", x.odds(n, 1), power(below[i], n));
            }
        }
        x.change(7, 1, 0);
        due("6 alone", x.odds(1, 0), 3);
        due("6 alone", x.odds(1, 1), 4);
        due("7 to the 20th", power(7, 20), 79792266297612001L);
        due("8 to the 20th", power(8, 20), 1152921504606846976L);
        int[][] bad = {{-1, 0}, {21, 0}, {0, -1}, {0, 2}, {MIN, 0}, {0, MAX}};
        for (int[] a : bad) {
            due("odds(" + a[0] + ", " + a[1] + ")", x.odds(a[0], a[1]), BEYOND);
        }
        due("nothing is drawn", x.count(6), 1);
        due("status(0)", x.status(0), bad.length);
    }

    private static long power(long base, int n) {
        return java.math.BigInteger.valueOf(base).pow(n).longValueExact();
    }

    private static void seed() {
        promise = 29;
        HillDance x = new HillDance();
        due("seed(BEYOND)", x.seed(BEYOND), 1);
        due("seed(MIN)", x.seed(MIN), BEYOND);
        due("seed(MAX)", x.seed(MAX), MIN);
        due("count(6)", x.count(6), MAX);
        due("no finding", x.status(-1), 0);
        x.seed(1);
        x.rains(1);
        due("z", x.count(6), -1770082073);
        x.seed(0);
        x.rains(1);
        due("z", x.count(6), 0 * 1103515245 + 12345 * 1103515245 + 12345);
    }

    private static void feed() {
        promise = 30;
        HillDance x = new HillDance();
        due("feed(.., 0)", x.feed('h', 0), BEYOND);
        due("feed(.., 5)", x.feed('h', 5), BEYOND);
        due("feed(.., MIN)", x.feed('h', MIN), BEYOND);
        due("feed(.., MAX)", x.feed('h', MAX), BEYOND);
        due("'r'", x.feed('x' << 8 | 'r', 1), 1);
        due("'ain'", x.feed('x' << 24 | 'a' << 16 | 'i' << 8 | 'n', 3), 4);
        due("' 7'", x.feed(' ' << 8 | '7', 2), 6);
        due("text()", x.text(), 1);
        due("rain", x.rain(2), 7);
        for (int i = 1; i <= 29; i++) {
            due("blanks", x.feed(0x20202020, 4), 4 * i);
        }
        due("one", x.feed(' ', 1), 117);
        due("4 are too many", x.feed(0x20202020, 4), FULL);
        due("5 are beyond", x.feed(0x20202020, 5), BEYOND);
        due("3 are not", x.feed(0x202020, 3), 120);
        due("1 is", x.feed(' ', 1), FULL);
        due("count(5)", x.count(5), 120);
        due("text()", x.text(), -121);
        due("a high byte", x.feed(-1, 4), 4);
        due("begins no token", x.text(), -1);
        due("status(1)", x.status(1), 2);
    }

    private static void wipe() {
        promise = 31;
        HillDance x = new HillDance();
        due("wipe()", x.wipe(), 0);
        x.feed(0x68696c6c, 4);
        due("wipe()", x.wipe(), 4);
        due("wipe()", x.wipe(), 0);
        due("count(5)", x.count(5), 0);
        due("text()", x.text(), -1);
        feedText(x, "rain 12hills");
        due("wipe()", x.wipe(), 12);
        feedText(x, "rain 1");
        due("what was wiped isn't read", x.text(), 1);
        due("rain", x.rain(2), 1);
        feedText(x, "hills");
        due("text()", x.text(), -1);
        feedText(x, "hill");
        due("what was read isn't read again", x.text(), 1);
    }

    private static void text() {
        promise = 32;
        textGood();
        String[] faults = {"hill-hill", "hill step ;1", "hill step #1", "hill step ;", "rain 1-hill", "hillz", "hilla",
            "mill", "xain 1", "hill bt 3", "", "   ", "hills", "hil", "Hill", "at 3", "7", ";", "hill at 12", "hill at -1",
            "hill at", "hill at ", "hill at step", "hill 3", "hill step 6", "hill step -6", "hill step --1",
            "hill step", "hill step -", "hill step - ", "hill turn 4", "hill turn -1", "hill high 100",
            "hill high -1", "hill high 50 high 50", "hill turn 1 step 1", "hill step 1 at 1", "hill high 1 turn 1",
            "hill hill", "hill;", "hill; ", "hill;;hill", "hill,hill", "rain", "rain 10", "rain -1", "rain 1 2",
            "rain 1 at 1", "rain step", "rain 1000", "hill at 1000", "hill at 99999999999999999999",
            "hill at 4294967296", "rain 3;hill at 3\t;", "hill\n", "hill at 3 #", "hillat 3", "hill a t 3",
            "hill at 3stepp 3", "hill at 1 1", "rain 5;rain 10", "twin step 0;stone high 1 0"};
        int[] places = {4, 10, 10, 10, 6, 0, 0,
            0, 0, 5, 0, 3, 0, 0, 0, 0, 0, 0, 8, 8,
            7, 8, 8, 5, 10, 11, 11,
            9, 11, 12, 10, 10, 10,
            10, 13, 12, 12, 12,
            5, 5, 6, 5, 4, 4, 5, 5, 7,
            7, 5, 5, 8, 8,
            8, 16, 4, 10, 0, 5,
            9, 10, 12, 25};
        for (int i = 0; i < faults.length; i++) {
            dueText(faults[i], -1 - places[i]);
        }
        textFull();
    }

    private static void textGood() {
        String[] good = {"hill", " hill ", "rain 0", "rain9", "hill;rain 1;hill", "rain 1;rain 2;rain 3",
            "hill at 011step05turn3high99", "hill step - 5", "hill step-0", "hill high 0", "hill turn 0000000000000003",
            "ridge at 1;partner at 2;twin at 3;feud at 4;stone at 5;scarp at 6;hill;rain 4"};
        int[] items = {1, 1, 1, 1, 3, 3, 1, 1, 1, 1, 1, 8};
        for (int i = 0; i < good.length; i++) {
            dueText(good[i], items[i]);
        }
        HillDance x = new HillDance();
        feedText(x, "ridge at 1 step 2;partner step -5 high 0;twin turn 3;feud at 11 high 99;stone;scarp;rain 8;hill");
        due("text()", x.text(), 8);
        int[][] want = {{1, 1, 2, 0, 50}, {2, 0, -5, 0, 0}, {3, 0, 1, 3, 50}, {4, 11, 1, 0, 99}, {5, 0, 1, 0, 50},
            {6, 0, 1, 0, 50}, {0, 0, 1, 0, 50}};
        for (int h = 0; h < want.length; h++) {
            for (int what = 0; what < 5; what++) {
                due("of(" + h + ", " + what + ")", x.of(h, what), want[h][what]);
            }
            due("bowed", x.of(h, 5), 0);
        }
        due("rain", x.rain(0), 8);
        due("count(1)", x.count(1), 7);
    }

    private static void textFull() {
        HillDance x = with(STONE, 0, STONE, 0, STONE, 0, STONE, 0, STONE, 0, STONE, 0);
        feedText(x, "rain 9;twin at 3; feud ;  hill at 99");
        due("a 9th hill", x.text(), -27);
        due("count(1)", x.count(1), 6);
        due("rain stays", x.rain(2), 2);
        feedText(x, "twin at 99; feud; hill");
        due("the first fault", x.text(), -9);
        feedText(x, "twin at 3;feud at 4;rain 9");
        due("just 8", x.text(), 3);
        due("count(1)", x.count(1), 8);
        due("number 6", x.of(6, 0), TWIN);
        due("number 7", x.of(7, 1), 4);
        feedText(x, "rain 3;hill");
        due("a 9th", x.text(), -8);
        feedText(x, "rain 3");
        due("rain alone", x.text(), 1);
        due("rain", x.rain(0), 3);
        due("no findings", x.status(-1), 0);
    }

    private static void hold() {
        promise = 33;
        HillDance x = with(TWIN, 0, STONE, 0);
        due("hold(0, 1)", x.hold(0, 1), 1);
        due("hold(9, 0)", x.hold(9, 0), 1);
        due("as(0, 0)", x.as(0, 0), 1);
        due("as(9, 0)", x.as(9, 0), 0);
        due("count(7)", x.count(7), 2);
        int[][] bad = {{-1, 0}, {10, 0}, {0, -2}, {0, 2}, {10, -1}, {MIN, 0}, {0, MAX}};
        for (int[] a : bad) {
            due("hold(" + a[0] + ", " + a[1] + ")", x.hold(a[0], a[1]), BEYOND);
        }
        due("as(0, 0)", x.as(0, 0), 1);
        due("hold(0, -1)", x.hold(0, -1), 1);
        due("as(0, 0)", x.as(0, 0), MISSING);
        due("count(7)", x.count(7), 1);
    }

    private static void as() {
        promise = 34;
        // Row: the kind that it is of; column: as which it can be taken.
        int[] taken = {1, 1 | 1 << RIDGE, 1 | 1 << PARTNER, 1 | 1 << PARTNER | 1 << TWIN,
            1 | 1 << PARTNER | 1 << TWIN | 1 << FEUD, 1 | 1 << STONE, 1 | 1 << RIDGE | 1 << SCARP};
        HillDance x = with(STONE, 0, HILL, 0);
        x.hold(3, 1);
        int kindFindings = 0;
        for (int kind = 0; kind < 7; kind++) {
            x.change(1, 0, kind);
            for (int as = 0; as < 7; as++) {
                boolean fits = (taken[kind] >> as & 1) != 0;
                due(kind + " as " + as, x.as(3, as), fits ? 1 : KIND);
                kindFindings += fits ? 0 : 1;
            }
        }
        due("status(2)", x.status(2), kindFindings);
        int[][] bad = {{-1, 0}, {10, 0}, {3, -1}, {3, 7}, {4, 7}, {MIN, 0}, {3, MAX}};
        for (int[] a : bad) {
            due("as(" + a[0] + ", " + a[1] + ")", x.as(a[0], a[1]), BEYOND);
        }
        due("as(4, 0)", x.as(4, 0), MISSING);
        due("as(4, 6)", x.as(4, 6), MISSING);
    }

    private static void sheet() {
        promise = 35;
        HillDance x = new HillDance();
        for (int bits : new int[] {8, 16, 32}) {
            due("sheet(0, " + bits + ", 40)", x.sheet(0, bits, 40), 40);
            due("its last", x.write(0, 39, 7), 1);
            due("no more", x.write(0, 40, 7), BEYOND);
            due("sheet(0, " + bits + ", 0)", x.sheet(0, bits, 0), 0);
            due("is there", x.load(0), 0);
            due("-1 numbers", x.sheet(0, bits, -1), SIZE);
            due("MIN numbers", x.sheet(0, bits, MIN), SIZE);
            due("41 numbers", x.sheet(0, bits, 41), BEYOND);
            due("MAX numbers", x.sheet(0, bits, MAX), BEYOND);
            due("is there", x.load(0), 0);
        }
        due("bits 0, n below 0", x.sheet(0, 0, -1), SIZE);
        due("is there", x.load(0), 0);
        due("bits 0", x.sheet(0, 0, 5), 0);
        due("is missing", x.load(0), MISSING);
        due("bits 0 again", x.sheet(0, 0, 0), 0);
        for (int bits : new int[] {-8, 1, 7, 9, 24, 64, MIN, MAX}) {
            due("bits " + bits, x.sheet(0, bits, 1), BEYOND);
            due("bits come first: " + bits, x.sheet(0, bits, -1), BEYOND);
        }
        due("sheet(-1, 8, 1)", x.sheet(-1, 8, 1), BEYOND);
        due("sheet(4, 8, -1)", x.sheet(4, 8, -1), BEYOND);
        due("sheet(3, 8, 1)", x.sheet(3, 8, 1), 1);
        due("status(6)", x.status(6), 7);
        // All are 0 again: a hill faces valley 0.
        HillDance y = with(STONE, 0);
        fillSheet(y, 1, 8, 5);
        due("not 0", y.judge(1), 1);
        y.sheet(1, 8, 1);
        due("0", y.judge(1), 0);
    }

    private static void write() {
        promise = 36;
        HillDance x = with(STONE, 3, STONE, 3, STONE, 3);
        due("no sheet", x.write(-1, 0, 0), BEYOND);
        due("no sheet", x.write(4, 0, 0), BEYOND);
        due("missing", x.write(0, 0, 0), MISSING);
        due("missing first", x.write(0, -1, 0), MISSING);
        x.sheet(0, 8, 2);
        for (int i : new int[] {-1, 2, 40, MIN, MAX}) {
            due("number " + i, x.write(0, i, 3), BEYOND);
        }
        due("write(0, 0, 259)", x.write(0, 0, 259), 1);
        due("write(0, 1, 3 - 256)", x.write(0, 1, 3 - 256), 1);
        due("the lowest 8 bits are 3", x.judge(0), 0);
        x.sheet(1, 16, 2);
        x.write(1, 0, 3 + 65536);
        x.write(1, 1, 3 + 256);
        due("the lowest 16 bits are 3, 259", x.judge(1), 2);
        x.sheet(2, 32, 1);
        x.write(2, 0, 3 + 65536);
        due("32 bits", x.judge(2), 1);
        due("255 in 8 bits is -1", fitsWhenWritten(8, 255), 11);
        due("65535 in 16 bits is -1", fitsWhenWritten(16, 65535), 11);
        due("255 in 16 bits isn't", fitsWhenWritten(16, 255), 0);
        due("65535 in 32 bits isn't", fitsWhenWritten(32, 65535), 0);
    }

    private static void copy() {
        promise = 37;
        HillDance x = with(STONE, 1, STONE, 2, STONE, 3, STONE, 4, STONE, 5);
        fillSheet(x, 0, 8, 1, 2, 3, 4, 5);
        x.sheet(1, 8, 5);
        due("no sheet s", x.copy(-1, 0, 1, 0, 1), BEYOND);
        due("no sheet t", x.copy(0, 0, 4, 0, 1), BEYOND);
        due("beyond ahead of missing", x.copy(2, 0, 4, 0, 1), BEYOND);
        due("s is missing", x.copy(2, 0, 0, 0, 1), MISSING);
        due("t is missing", x.copy(0, 0, 2, 0, 1), MISSING);
        due("missing ahead of beyond", x.copy(0, -1, 2, 0, 1), MISSING);
        x.sheet(2, 16, 5);
        due("other bits", x.copy(0, 0, 2, 0, 1), KIND);
        due("kind ahead of beyond", x.copy(0, 0, 2, 0, 99), KIND);
        int[][] bad = {{-1, 0, 1}, {0, -1, 1}, {0, 0, -1}, {0, 0, 6}, {1, 0, 5}, {0, 1, 5}, {MAX, 0, 1},
            {0, MAX, MAX}, {1, 1, MAX}, {0, 0, MIN}, {MIN, 0, MIN}};
        for (int[] a : bad) {
            due("copy(0, " + a[0] + ", 1, " + a[1] + ", " + a[2] + ")", x.copy(0, a[0], 1, a[1], a[2]), BEYOND);
        }
        due("nothing came", x.judge(1), 1);
        due("three come", x.copy(0, 1, 1, 1, 3), 3);
        x.write(1, 0, 1);
        due("up to the 4th", x.judge(1), 5);
        due("none comes", x.copy(0, 5, 1, 5, 0), 0);
        due("all", x.copy(0, 0, 1, 0, 5), 5);
        due("all are there", x.judge(1), 0);
        fillSheet(x, 3, 8, 9, 1, 2, 3, 4);
        due("back in itself", x.copy(3, 1, 3, 0, 4), 4);
        x.write(3, 4, 5);
        due("as they were", x.judge(3), 0);
        fillSheet(x, 3, 8, 2, 3, 4, 5, 9);
        due("on in itself", x.copy(3, 0, 3, 1, 4), 4);
        x.write(3, 0, 1);
        due("as they were", x.judge(3), 0);
    }

    private static void load() {
        promise = 38;
        HillDance x = with(STONE, 0, STONE, 1, STONE, 2);
        due("no sheet", x.load(-1), BEYOND);
        due("no sheet", x.load(4), BEYOND);
        due("missing", x.load(0), MISSING);
        fillSheet(x, 0, 32, 99, 0);
        due("load(0)", x.load(0), 2);
        due("height 0", x.of(0, 4), 99);
        due("height 1", x.of(1, 4), 0);
        due("height 2", x.of(2, 4), 50);
        fillSheet(x, 0, 32, 7, 100, 8);
        due("100 ends it", x.load(0), 1);
        due("height 0", x.of(0, 4), 7);
        due("height 2", x.of(2, 4), 50);
        fillSheet(x, 0, 8, 8, 9, -1);
        due("-1 ends it", x.load(0), 2);
        fillSheet(x, 0, 8, 1, 2, 3, 4);
        due("no 4th hill", x.load(0), 3);
        due("now(1)", x.now(1), 6);
    }

    private static void judge() {
        promise = 39;
        HillDance x = with(STONE, 0, STONE, 1, STONE, 2);
        x.change(1, 3, 2);
        due("no sheet", x.judge(-1), BEYOND);
        due("no sheet", x.judge(4), BEYOND);
        due("missing", x.judge(0), MISSING);
        x.sheet(0, 8, 0);
        due("empty", x.judge(0), 0);
        fillSheet(x, 0, 8, 0, 7);
        due("so", x.judge(0), 0);
        fillSheet(x, 0, 8, 0, 7, 2);
        due("so, all", x.judge(0), 0);
        fillSheet(x, 0, 8, 0, 7, 2, 0);
        due("no hill 3", x.judge(0), 4);
        fillSheet(x, 0, 8, 0, 1, 3);
        due("the first", x.judge(0), 2);
        fillSheet(x, 0, 8, -1);
        due("-1 is no valley", x.judge(0), 1);
        fillSheet(x, 0, 8, 12);
        due("12 isn't 0", x.judge(0), 1);
    }

    private static void images() {
        HillDance x = with(HILL, 3, STONE, 3);
        x.rain(5);
        x.seed(77);
        x.hold(2, 1);
        x.go(2);
        promise = 40;
        due("image()", x.image(), 1);
        int[] was = snapshot(x);
        change(x);
        promise = 41;
        due("undo()", x.undo(), 2);
        dueSame("behind undo", snapshot(x), was);
        due("rain", x.rain(5), 5);
        due("the tape stays", x.count(5), 4);
        due("sheets stay", x.write(0, 0, 3), 1);
        due("spot 4", x.as(4, 0), MISSING);
        due("spot 2", x.as(2, STONE), 1);
        due("status stays", x.status(-1), 1);
        change(x);
        due("undo() again", x.undo(), 2);
        dueSame("behind undo again", snapshot(x), was);
        x.go(1);
        promise = 40;
        due("image()", x.image(), 1);
        x.go(1);
        promise = 41;
        due("the latest", x.undo(), 3);
        promise = 42;
        due("tear()", x.tear(), 1);
        due("tear()", x.tear(), 0);
        due("undo()", x.undo(), NONE);
        due("age", x.count(0), 3);
        due("image()", x.image(), 1);
        due("undo()", x.undo(), 3);
        due("status(3)", x.status(3), 1);
    }

    private static void change(HillDance x) {
        x.wipe();
        x.feed(0x68696c6c, 4);
        x.sheet(0, 8, 1);
        x.rain(9);
        x.hill(FEUD, 8);
        x.hold(4, 2);
        x.hold(2, -1);
        int[] values = {6, 1, 4, 2, 10, 500};
        for (int what = 0; what < values.length; what++) {
            x.change(0, what, values[what]);
        }
        x.rains(3);
    }

    private static int[] snapshot(HillDance x) {
        int[] all = new int[18];
        for (int what = 0; what < 6; what++) {
            all[what] = x.of(0, what);
            all[6 + what] = x.of(1, what);
        }
        int[] counts = {0, 1, 3, 4, 6, 7};
        for (int i = 0; i < counts.length; i++) {
            all[12 + i] = x.count(counts[i]);
        }
        return all;
    }

    private static void dueSame(String what, int[] got, int[] want) {
        for (int i = 0; i < want.length; i++) {
            due(what + ", row " + i, got[i], want[i]);
        }
    }

    private static void count() {
        promise = 43;
        HillDance x = with(STONE, 4, STONE, 4, STONE, 5);
        x.change(2, 4, 1);
        x.go(3);
        x.feed(0, 3);
        x.hold(0, 0);
        x.hold(5, 0);
        x.hold(9, 2);
        x.seed(-5);
        int[] want = {3, 3, 2, 104, 6, 3, -5, 3};
        for (int what = 0; what < want.length; what++) {
            due("count(" + what + ")", x.count(what), want[what]);
        }
        for (int what : new int[] {-1, 8, MIN, MAX}) {
            due("count(" + what + ")", x.count(what), BEYOND);
        }
        due("status(0)", x.status(0), 4);
    }

    private static void status() {
        promise = 44;
        HillDance x = with(STONE, 0, STONE, 0, STONE, 0, STONE, 0, STONE, 0, STONE, 0, STONE, 0, STONE, 0);
        x.rain(-1);
        x.rain(10);
        x.hill(0, 0);
        x.hold(0, 0);
        x.as(0, FEUD);
        x.undo();
        x.load(0);
        x.sheet(0, 8, -1);
        int[] want = {2, 1, 1, 1, 0, 1, 1};
        for (int which = 0; which < want.length; which++) {
            due("status(" + which + ")", x.status(which), want[which]);
        }
        due("status(-1)", x.status(-1), 7);
        due("status(7)", x.status(7), BEYOND);
        due("status(-2)", x.status(-2), BEYOND);
        due("status(MIN)", x.status(MIN), BEYOND);
        due("status(MAX)", x.status(MAX), BEYOND);
        due("counted from then on", x.status(0), 6);
        due("counted from then on", x.status(-1), 11);
        x.image();
        x.now(9);
        x.undo();
        due("undo takes none back", x.status(0), 7);
    }

    /** With 8 hills each row is full: stones at valleys 0 to 7, but for a ridge at 7 that goes round in 6 ages. */
    private static void fullShire() {
        HillDance x = with(STONE, 0, STONE, 1, STONE, 2, STONE, 3, STONE, 4, STONE, 5, STONE, 6, RIDGE, 7);
        promise = 6;
        due("valley(7, 2)", x.valley(7, 2), 50);
        promise = 8;
        due("now(1)", x.now(1), 400);
        due("now(2)", x.now(2), 0);
        due("now(3)", x.now(3), 255);
        promise = 9;
        due("ahead(7, 1, 3)", x.ahead(7, 1, 3), 1);
        promise = 11;
        due("meet(7, 1)", x.meet(7, 1), 3);
        promise = 12;
        due("round()", x.round(), 6);
        promise = 14;
        due("wallflowers(3)", x.wallflowers(3), 255);
        due("wallflowers(4)", x.wallflowers(4), 125);
        promise = 15;
        due("stand(7, 0)", x.stand(7, 0), 0);
        promise = 20;
        due("road(0, 8, 49)", x.road(0, 8, 49), 4);
        promise = 21;
        due("climb(0, 6)", x.climb(0, 6), 50);
        promise = 27;
        due("rains(1)", x.rains(1), 408);
        due("hill 0 turned", x.of(0, 3), 1);
        promise = 7;
        due("go(2)", x.go(2), 2);
        due("the ridge is at 1", x.of(7, 1), 1);
        promise = 40;
        due("image()", x.image(), 1);
        x.go(1);
        promise = 41;
        due("undo()", x.undo(), 3);
        due("the ridge is at 1 again", x.of(7, 1), 1);
    }

    public static void main(String[] args) {
        newObject();
        rain();
        hill();
        of();
        change();
        valley();
        go();
        now();
        ahead();
        when();
        meet();
        round();
        skylines();
        wallflowers();
        stand();
        stepFor();
        turnFor();
        kindFor();
        rainFor();
        road();
        climb();
        open();
        lay();
        whatWasFaced();
        rains();
        odds();
        seed();
        feed();
        wipe();
        text();
        hold();
        as();
        sheet();
        write();
        copy();
        load();
        judge();
        images();
        count();
        status();
        fullShire();
        end();
    }
}
