import java.io.IOException;
import java.util.List;

// The promises of ../shared/DOC.md: each sentence that names a boundary case has a test of its own.
public final class PromiseEdgeTest extends Edges {
    private static HillDance stones(int n) {
        HillDance x = new HillDance();
        for (int i = 0; i < n; i++) {
            x.hill(STONE, i);
        }
        return x;
    }

    private static void newObject() {
        promise = 1;
        says("All as at first; no HILLS; THE TAPE is empty, no image is kept.");
        HillDance x = new HillDance();
        due("findings", x.status(-1), 0);
        due("hills", x.count(1), 0);
        due("age", x.count(0), 0);
        due("z", x.count(6), 1);
        due("spots that hold something", x.count(7), 0);
        due("of(0, 0)", x.of(0, 0), BEYOND);
        due("tape", x.wipe(), 0);
        due("text", x.text(), -1);
        due("undo", x.undo(), NONE);
        due("tear", x.tear(), 0);
        due("rain", x.rain(0), 2);
        HillDance other = new HillDance();
        other.hill(HILL, 0);
        due("nothing of another object", x.count(1), 0);
    }

    private static void rain() {
        promise = 2;
        says("RAIN becomes v: what it was.");
        HillDance x = with(RIDGE, 0);
        due("rain(0)", x.rain(0), 2);
        due("a ridge sinks by 0", x.of(0, 9), 0);
        due("rain(9)", x.rain(9), 0);
        due("a ridge sinks by 9", x.of(0, 9), 9);
        due("the same again", x.rain(9), 9);
        says("BEYOND.");
        within("rain", row(5), 0, 0, 9);
    }

    private static void hill() {
        promise = 3;
        says("A new HILL AT a VALLEY: its number.");
        HillDance x = new HillDance();
        for (int h = 0; h < 8; h++) {
            int kind = h % 7;
            int valley = h == 7 ? 11 : h;
            due("number", x.hill(kind, valley), h);
            due("kind", x.of(h, 0), kind);
            due("valley", x.of(h, 1), valley);
        }
        says("BEYOND.");
        within("hill", row(HILL, 3), 0, 0, 6);
        within("hill", row(HILL, 3), 1, 0, 11);
        says("FULL.");
        for (int kind = 0; kind < 7; kind++) {
            refused(Edges::crowded, FULL, "hill", kind, 11);
        }
    }

    private static void of() {
        promise = 4;
        says("BEYOND.");
        within("of", row(0, 0), 0, 0, 2);
        within("of", row(0, 0), 1, 0, 10);
        due("no hill at all", new HillDance().of(0, 0), BEYOND);
        HillDance x = crowded();
        for (int what = 0; what <= 10; what++) {
            x.of(7, what);
        }
        due("the 8th has all of them", x.status(-1), 0);
        due("there is no 9th", x.of(8, 0), BEYOND);
    }

    private static void change() {
        promise = 5;
        says("KIND (what 0), VALLEY (1), STEP (2), TURN (3), HEIGHT (4), BOWED (5) of a HILL becomes v: what it was.");
        int[] least = {0, 0, -5, 0, 0, 0};
        int[] most = {6, 11, 5, 3, 99, 9999};
        int[] first = {STONE, 7, 1, 0, 50, 0};
        HillDance x = stones(8);
        for (int what = 0; what < 6; what++) {
            due("the least of " + what, x.change(7, what, least[what]), first[what]);
            due("is", x.of(7, what), least[what]);
            due("the most of " + what, x.change(7, what, most[what]), least[what]);
            due("is", x.of(7, what), most[what]);
            due("another hill's", x.of(6, what), what == 1 ? 6 : first[what]);
        }
        says("BEYOND.");
        within("change", row(0, 3, 1), 0, 0, 2);
        within("change", row(0, 3, 1), 1, 0, 5);
        for (int what = 0; what < 6; what++) {
            within("change", row(0, what, 1), 2, least[what], most[what]);
        }
    }

    private static void valley() {
        promise = 6;
        says("2 the greatest HEIGHT of those AT it (-1: there are none).");
        HillDance x = shire(2, row(STONE, 11, 1, 0, 0), row(STONE, 0, 1, 0, 98), row(STONE, 0, 1, 0, 99));
        due("none", x.valley(5, 2), -1);
        due("one of height 0", x.valley(11, 2), 0);
        due("two", x.valley(0, 2), 99);
        x.change(0, 1, 5);
        due("none any more", x.valley(11, 2), -1);
        due("no finding", x.status(-1), 0);
        due("no hills", new HillDance().valley(0, 2), -1);
        due("8 hills", stones(8).valley(7, 2), 50);
        says("BEYOND.");
        within("valley", row(3, 0), 0, 0, 11);
        within("valley", row(3, 0), 1, 0, 2);
    }

    private static HillDance aged(int age) {
        HillDance x = with(HILL, 0);
        while (x.now(0) < age) {
            x.go(Math.min(60, age - x.now(0)));
        }
        return x;
    }

    private static void go() {
        promise = 7;
        says("n AGES (1 to 60): how many HILLS MEET any then.");
        HillDance x = shire(2, row(HILL, 0, 1, 0, 0), row(STONE, 0, 1, 1, 50), row(STONE, 1, 1, 3, 50));
        due("go(1)", x.go(1), 2);
        due("one age", x.now(0), 1);
        due("one up", x.of(0, 4), 1);
        due("go(60)", x.go(60), 2);
        due("60 ages more", x.now(0), 61);
        due("no hills", new HillDance().go(60), 0);
        HillDance high = shire(2, row(HILL, 0, 1, 1, 0));
        high.go(60);
        due("60 up", high.of(0, 4), 60);
        says("BEYOND.");
        within("go", row(1), 0, 1, 60);
        says("STATE: AGE would be above 99999.");
        // No object comes here in 512 calls: the bound is kept all the same.
        due("60 from 99940", aged(99940).go(60), STATE);
        due("59 from 99940", aged(99940).go(59), 0);
        HillDance last = aged(99999);
        due("1 from 99999", last.go(1), STATE);
        due("age", last.now(0), 99999);
        due("where it was", last.of(0, 1), 99999 % 12);
        due("status(4)", last.status(4), 1);
    }

    private static void now() {
        promise = 8;
        says("BEYOND.");
        within("now", row(0), 0, 0, 5);
        HillDance x = new HillDance();
        for (int what = 0; what < 6; what++) {
            due("without hills " + what, x.now(what), 0);
        }
    }

    private static void ahead() {
        promise = 9;
        says("VALLEY (what 1), TURN (3), HEIGHT (4), BOWED (5), FACES (6) of a HILL behind n (0 to 100) AGES.");
        HillDance x = shire(2, row(HILL, 3, 1, 2, 0), row(STONE, 8, 1, 0, 50), row(STONE, 8, 1, 0, 50));
        int[][] want = {{1, 3, 7}, {3, 2, 2}, {6, 9, 1}};
        for (int[] w : want) {
            due("now, " + w[0], x.ahead(0, w[0], 0), w[1]);
            due("behind 100 ages, " + w[0], x.ahead(0, w[0], 100), w[2]);
        }
        due("bowed now", x.ahead(1, 5, 0), 0);
        due("bowed 100 times", x.ahead(1, 5, 100), 100);
        HillDance alone = shire(2, row(STONE, 3, 1, 1, 0));
        due("height now", alone.ahead(0, 4, 0), 0);
        due("98 up", alone.ahead(0, 4, 98), 98);
        due("99 at most", alone.ahead(0, 4, 100), 99);
        says("BEYOND.");
        within("ahead", row(0, 1, 1), 0, 0, 2);
        within("ahead", row(0, 3, 1), 2, 0, 100);
        for (int what : new int[] {-1, 0, 2, 7, 8, MIN, MAX}) {
            refused(BEYOND, "ahead", 0, what, 1);
        }
    }

    private static void when() {
        promise = 10;
        says("Behind how many AGES (0 to 200, the fewest) a HILL FACES a VALLEY.");
        due("now", with(HILL, 3).when(0, 3), 0);
        // A ridge of step -1 is back each 6 ages.
        HillDance x = shire(2, row(RIDGE, 0, -1, 0, 50));
        due("the fewest", x.when(0, 2), 5);
        due("behind 200", shire(5, row(4, 3, -1, 2, 3), row(4, 3, -5, 2, 55), row(1, 3, 0, 3, 82)).when(0, 8), 200);
        says("BEYOND.");
        within("when", row(0, 3), 0, 0, 2);
        within("when", row(0, 3), 1, 0, 11);
        says("NONE.");
        refused(NONE, "when", 2, 8);
        HillDance late = shire(3, row(6, 0, -5, 0, 17), row(5, 8, 5, 3, 19), row(5, 4, 3, 0, 74));
        due("behind 201", late.when(0, 3), NONE);
        late.go(1);
        due("an age on behind 200", late.when(0, 3), 200);
    }

    private static void meet() {
        promise = 11;
        says("Behind how many AGES (0 to 200, the fewest) two HILLS MEET.");
        due("now", with(STONE, 3, STONE, 3).meet(0, 1), 0);
        due("behind 200", shire(3, row(1, 1, -2, 2, 27), row(6, 10, -3, 2, 19), row(1, 0, 1, 2, 84)).meet(0, 1), 200);
        says("BEYOND: also one and the same.");
        pairs("meet");
        says("NONE.");
        refused(PromiseEdgeTest::apart, NONE, "meet", 1, 2);
        due("stones apart", with(STONE, 3, STONE, 4).meet(1, 0), NONE);
        HillDance late = shire(7, row(2, 2, 5, 2, 57), row(4, 1, 2, 0, 4), row(4, 0, -1, 3, 80));
        due("behind 201", late.meet(0, 1), NONE);
        late.go(1);
        due("an age on behind 200", late.meet(0, 1), 200);
    }

    /** Of two hills each must be there, and they must be two. */
    private static void pairs(String name) {
        within(name, row(0, 1), 0, 0, 2);
        within(name, row(0, 1), 1, 1, 2);
        within(name, row(1, 0), 1, 0, 0);
        for (int h = 0; h < 3; h++) {
            refused(BEYOND, name, h, h);
        }
        refused(BEYOND, name, 3, 3);
        refused(BEYOND, name, -1, -1);
        refused(BEYOND, name, 0, 3);
        refused(BEYOND, name, 0, -1);
    }

    private static void round() {
        promise = 12;
        says("Behind how many AGES (1 to 300, the fewest) VALLEY and TURN of all HILLS are as now.");
        due("no hills", new HillDance().round(), 1);
        due("stones", stones(8).round(), 1);
        due("height doesn't count", shire(2, row(STONE, 0, 1, 0, 0)).round(), 1);
        due("a ridge of step 5", shire(2, row(RIDGE, 0, 5, 0, 0)).round(), 6);
        due("turn alone", shire(2, row(HILL, 0, 0, 0, 0)).round(), 4);
        due("behind 300", shire(3, row(6, 7, 3, 3, 63), row(4, 8, -5, 0, 72), row(4, 8, -4, 2, 94)).round(), 300);
        says("NONE.");
        due("behind 301", shire(1, row(3, 10, -2, 1, 39), row(3, 8, 0, 1, 23), row(4, 9, -5, 0, 15)).round(), NONE);
        due("behind 302", shire(9, row(4, 2, -2, 0, 81), row(6, 11, 0, 0, 48)).round(), NONE);
        due("behind 303", shire(0, row(4, 4, -4, 2, 34), row(3, 6, 5, 2, 2), row(1, 6, 4, 1, 88)).round(), NONE);
        refused(PromiseEdgeTest::neverRound, NONE, "round");
    }

    /** The partner stood still for its first age but turned, so it is never again at 4 with turn 0. */
    private static HillDance neverRound() {
        return with(PARTNER, 4, STONE, 4);
    }

    private static void skylines() {
        promise = 13;
        says("How many of the next n (0 to 200) AGES there are ahead of which a VALLEY is faced by a HILL.");
        HillDance x = with(STONE, 11, HILL, 3);
        due("of none", x.skylines(11, 0), 0);
        due("of the first", x.skylines(11, 1), 1);
        due("of all", x.skylines(11, 200), 200);
        due("the first is now", x.skylines(3, 1), 1);
        due("not behind it", x.skylines(5, 1), 0);
        due("no hills", new HillDance().skylines(0, 200), 0);
        HillDance last = shire(4, row(4, 6, -4, 1, 0), row(1, 1, 0, 1, 16));
        due("not ahead of the 199th", last.skylines(3, 199), 0);
        due("ahead of the 200th", last.skylines(3, 200), 1);
        says("BEYOND.");
        within("skylines", row(0, 1), 0, 0, 11);
        within("skylines", row(0, 1), 1, 0, 200);
    }

    private static void wallflowers() {
        promise = 14;
        says("HILLS that MEET none ahead of any of the next n (0 to 200) AGES, as a set.");
        HillDance x = with(STONE, 4, STONE, 4, STONE, 5);
        due("ahead of none", x.wallflowers(0), 7);
        due("ahead of the first", x.wallflowers(1), 4);
        due("ahead of 200", x.wallflowers(200), 4);
        due("no hills", new HillDance().wallflowers(200), 0);
        due("8 hills", stones(8).wallflowers(200), 255);
        HillDance last = shire(3, row(0, 7, -4, 0, 14), row(6, 9, 4, 3, 16), row(1, 6, -4, 3, 32));
        due("ahead of the 199th still", last.wallflowers(199), 1);
        due("ahead of the 200th no more", last.wallflowers(200), 0);
        says("BEYOND.");
        within("wallflowers", row(1), 0, 0, 200);
    }

    private static void stand() {
        promise = 15;
        says("The VALLEY AT which a HILL must be now to MEET another one soonest (200 AGES at most).");
        due("at 0", with(STONE, 5, STONE, 0).stand(0, 1), 0);
        due("at 11", with(STONE, 5, STONE, 11).stand(0, 1), 11);
        // From each valley they meet some time, as the ridge comes by; at 6 they do so now.
        due("soonest", shire(2, row(STONE, 0, 1, 0, 50), row(RIDGE, 6, 5, 0, 50)).stand(0, 1), 6);
        HillDance last = shire(7, row(5, 3, -3, 0, 45), row(4, 11, 3, 3, 93), row(2, 10, 1, 2, 23));
        due("behind 200", last.stand(0, 1), 2);
        last.change(0, 1, 2);
        due("from 2 behind 200", last.meet(0, 1), 200);
        says("BEYOND: also one and the same.");
        pairs("stand");
        says("NONE.");
        refused(PromiseEdgeTest::apart, NONE, "stand", 1, 2);
        HillDance late = shire(7, row(6, 0, 5, 1, 70), row(4, 3, 5, 2, 90), row(0, 2, 2, 2, 41));
        due("behind 201", late.stand(0, 1), NONE);
        late.change(0, 1, 5);
        late.go(1);
        due("from 5 behind 201", late.meet(0, 1), 200);
    }

    /** As usual, with stones 1 and 2, one of which looks on. */
    private static HillDance apart() {
        HillDance x = usual();
        x.change(1, 0, STONE);
        x.change(1, 1, 3);
        x.change(1, 3, 1);
        return x;
    }

    private static void stepFor() {
        promise = 16;
        says("The STEP (-5 to 5) that it must have; of several the least.");
        // The hill has turn 0 behind 1, 5 and 9 ages; then it must be where the stone is.
        due("5 on", shire(2, row(HILL, 0, 1, 3, 50), row(STONE, 5, 1, 0, 50)).stepFor(0, 1), 5);
        due("5 back", shire(2, row(HILL, 0, 1, 3, 50), row(STONE, 7, 1, 0, 50)).stepFor(0, 1), -5);
        due("none", shire(2, row(HILL, 0, 1, 3, 50), row(STONE, 0, 1, 0, 50)).stepFor(0, 1), 0);
        due("-2 or 2", shire(2, row(HILL, 0, 1, 3, 50), row(STONE, 6, 1, 0, 50)).stepFor(0, 1), -2);
        due("any", with(HILL, 0, STONE, 0).stepFor(0, 1), -5);
        HillDance last = shire(8, row(2, 8, 2, 1, 60), row(6, 11, -4, 3, 94), row(4, 1, -4, 1, 27));
        due("behind 200", last.stepFor(0, 1), -1);
        last.change(0, 2, -1);
        due("by -1 behind 200", last.meet(0, 1), 200);
        says("BEYOND likewise.");
        pairs("stepFor");
        says("NONE.");
        refused(PromiseEdgeTest::apart, NONE, "stepFor", 1, 2);
        HillDance late = shire(1, row(6, 5, 5, 1, 78), row(5, 0, 5, 1, 77), row(3, 5, 2, 3, 35));
        due("behind 201", late.stepFor(0, 1), NONE);
        late.change(0, 2, 0);
        late.go(1);
        due("by 0 behind 201", late.meet(0, 1), 200);
    }

    private static void turnFor() {
        promise = 17;
        says("The TURN that it must have.");
        due("0", with(STONE, 5, STONE, 5).turnFor(0, 1), 0);
        due("3", shire(2, row(STONE, 0, 1, 0, 50), row(STONE, 11, 1, 1, 50)).turnFor(0, 1), 3);
        due("2", shire(2, row(STONE, 0, 1, 0, 50), row(STONE, 6, 1, 2, 50)).turnFor(0, 1), 2);
        due("1", shire(2, row(STONE, 11, 1, 0, 50), row(STONE, 0, 1, 3, 50)).turnFor(0, 1), 1);
        HillDance last = shire(9, row(2, 6, -1, 3, 15), row(6, 11, 4, 2, 28), row(0, 7, 0, 1, 53));
        due("behind 200", last.turnFor(0, 1), 2);
        last.change(0, 3, 2);
        due("by 2 behind 200", last.meet(0, 1), 200);
        says("BEYOND likewise.");
        pairs("turnFor");
        says("NONE.");
        refused(PromiseEdgeTest::apart, NONE, "turnFor", 1, 2);
        HillDance late = shire(8, row(3, 6, -4, 1, 98), row(0, 5, 2, 2, 69), row(3, 7, 4, 1, 26));
        due("behind 201", late.turnFor(0, 1), NONE);
        late.change(0, 3, 0);
        late.go(1);
        due("by 0 behind 201", late.meet(0, 1), 200);
    }

    private static void kindFor() {
        promise = 18;
        says("The KIND of which it must be to have BOWED most behind n (0 to 60) AGES.");
        due("behind none", with(SCARP, 4, STONE, 4).kindFor(0, 0), HILL);
        due("behind one", with(SCARP, 4, STONE, 4).kindFor(0, 1), HILL);
        due("behind 60", with(SCARP, 4, STONE, 4).kindFor(0, 60), STONE);
        HillDance x = shire(3, row(6, 9, 0, 2, 52), row(6, 10, 4, 0, 23), row(6, 2, -4, 2, 14));
        due("behind 59", x.kindFor(0, 59), RIDGE);
        due("behind 60", x.kindFor(0, 60), SCARP);
        HillDance often = with(HILL, 4, STONE, 4);
        often.change(0, 5, 9999);
        due("more than 9999 times is none", often.kindFor(0, 60), HILL);
        says("BEYOND.");
        within("kindFor", row(0, 1), 0, 0, 2);
        within("kindFor", row(0, 1), 1, 0, 60);
    }

    /** A ridge of a height that stays with a stone and sinks by the rain in each age. */
    private static HillDance sinking(int height) {
        return shire(2, row(RIDGE, 3, 0, 0, height), row(STONE, 3, 1, 0, 0));
    }

    private static void rainFor() {
        promise = 19;
        says("The least RAIN with which a HILL has a HEIGHT of v (0 to 99) or less behind n (0 to 60) AGES.");
        due("60 by 1 behind 60", sinking(60).rainFor(0, 0, 60), 1);
        due("60 behind 59 isn't 0 by 1", sinking(60).rainFor(0, 0, 59), 2);
        due("61 behind 60 isn't 0 by 1", sinking(61).rainFor(0, 0, 60), 2);
        due("99 is 99 now", sinking(99).rainFor(0, 99, 0), 0);
        due("0 is 0 now", sinking(0).rainFor(0, 0, 0), 0);
        due("50 is 50 without rain", sinking(50).rainFor(0, 50, 60), 0);
        due("9 by 9", sinking(9).rainFor(0, 0, 1), 9);
        due("5, 3, then 1 is less than 2", sinking(5).rainFor(0, 2, 2), 2);
        says("BEYOND.");
        within("rainFor", row(0, 50, 1), 0, 0, 2);
        within("rainFor", row(0, 50, 1), 1, 0, 99);
        within("rainFor", row(0, 50, 1), 2, 0, 60);
        says("NONE.");
        due("10 by 9", sinking(10).rainFor(0, 0, 1), NONE);
        due("51 isn't 50 now", sinking(51).rainFor(0, 50, 0), NONE);
        refused(NONE, "rainFor", 2, 0, 0);
    }

    private static void road() {
        promise = 20;
        says("How many VALLEYS further on (or back) the shortest ROAD goes that is OPEN for a CLIMB");
        HillDance x = with(STONE, 0);
        due("on over 0", x.road(11, 1, 50), 2);
        due("back over 0", x.road(1, 11, 50), 2);
        due("around", x.road(11, 1, 49), 10);
        due("around, back", x.road(1, 11, 49), 10);
        due("neighbours", x.road(11, 0, 0), 1);
        due("half around", x.road(3, 9, 0), 6);
        due("8 hills", stones(8).road(0, 7, 49), 5);
        says("(0: from and to are one and the same).");
        for (int v = 0; v < 12; v++) {
            due("from " + v, x.road(v, v, 0), 0);
        }
        due("no finding", x.status(-1), 0);
        says("BEYOND.");
        within("road", row(0, 6, 50), 0, 0, 11);
        within("road", row(0, 6, 50), 1, 0, 11);
        within("road", row(0, 6, 99), 2, 0, 99);
        says("NONE: none is OPEN.");
        refused(PromiseEdgeTest::shut, NONE, "road", 2, 4, 98);
        due("for 99", shut().road(2, 4, 99), 2);
    }

    /** Stones of 99 at 3 and 9, so that from one side to the other no road is open for less. */
    private static HillDance shut() {
        return shire(2, row(STONE, 3, 1, 0, 99), row(STONE, 9, 1, 0, 99));
    }

    private static void climb() {
        promise = 21;
        says("The least CLIMB for which any ROAD is OPEN.");
        due("no hills", new HillDance().climb(0, 6), 0);
        due("99", shut().climb(2, 4), 99);
        due("neighbours", shut().climb(3, 2), 0);
        due("one and the same", shut().climb(3, 3), 0);
        due("over 0", shut().climb(10, 2), 0);
        HillDance x = shut();
        x.change(1, 4, 1);
        due("around over 1", x.climb(2, 4), 1);
        due("around over 1", x.climb(4, 2), 1);
        says("BEYOND.");
        within("climb", row(0, 6), 0, 0, 11);
        within("climb", row(0, 6), 1, 0, 11);
    }

    private static void open() {
        promise = 22;
        says("How many of the next n (0 to 100) AGES there are ahead of which any ROAD is OPEN for a CLIMB.");
        // The ridge sinks by 1 in each age, so it is at 0 behind 99 ages; the other stone stays at 99.
        HillDance x = shire(1, row(RIDGE, 3, 0, 0, 99), row(STONE, 3, 1, 0, 0), row(STONE, 9, 1, 0, 99));
        due("of none", x.open(2, 4, 99, 0), 0);
        due("of the first", x.open(2, 4, 99, 1), 1);
        due("for 98 not now", x.open(2, 4, 98, 1), 0);
        due("for 98 behind an age", x.open(2, 4, 98, 2), 1);
        due("for 0 not ahead of the 99th", x.open(2, 4, 0, 99), 0);
        due("for 0 ahead of the 100th", x.open(2, 4, 0, 100), 1);
        due("one and the same", x.open(3, 3, 0, 100), 100);
        says("BEYOND.");
        within("open", row(0, 6, 50, 1), 0, 0, 11);
        within("open", row(0, 6, 50, 1), 1, 0, 11);
        within("open", row(0, 6, 50, 1), 2, 0, 99);
        within("open", row(0, 6, 50, 1), 3, 0, 100);
    }

    private static void lay() {
        promise = 23;
        says("The VALLEY (another one than that from which it goes) to which any ROAD is OPEN for a CLIMB ahead of most of "
            + "the next n (0 to 60) AGES.");
        due("another one than 0", new HillDance().lay(0, 0, 60), 1);
        due("another one than 11", new HillDance().lay(11, 99, 60), 0);
        due("another one than 0 in no ages", new HillDance().lay(0, 0, 0), 1);
        due("another one than 1 in no ages", shut().lay(1, 0, 0), 0);
        // The stone at 3 rises by 1 in each age and is above 58 behind 59; the one at 9 stays at 99.
        HillDance x = shire(2, row(STONE, 3, 1, 0, 0), row(STONE, 9, 1, 0, 99));
        due("0 in 59 ages", x.lay(4, 58, 59), 0);
        due("3 in 60 ages", x.lay(4, 58, 60), 3);
        due("ends may be high, what is between may not", shut().lay(6, 0, 60), 3);
        says("BEYOND.");
        within("lay", row(0, 50, 1), 0, 0, 11);
        within("lay", row(0, 50, 1), 1, 0, 99);
        within("lay", row(0, 50, 1), 2, 0, 60);
    }

    /** A hill at 3 with turn 0: by step s it faces 4 + s behind an age. */
    private static HillDance toldHill(int... numbers) {
        HillDance x = with(HILL, 3);
        fillSheet(x, 0, 8, numbers);
        return x;
    }

    /** 40 numbers: what a hill at 3 with turn 0 and step 1 faces now and behind each age further on. */
    private static int[] toldFor40() {
        int[] further = {0, 1, 6, 11};
        int[] numbers = new int[40];
        for (int k = 0; k < 40; k++) {
            numbers[k] = (3 + k + further[k % 4]) % 12;
        }
        return numbers;
    }

    private static int[] lastChanged(int[] numbers, int v) {
        int[] changed = numbers.clone();
        changed[changed.length - 1] = v;
        return changed;
    }

    private static void fits() {
        promise = 24;
        says("How many STEPS (-5 to 5) a HILL could have now, so that it FACES what a sheet tells now and behind each AGE "
            + "further on (-1: any).");
        due("an empty sheet", toldHill().fits(0, 0), 11);
        due("now", toldHill(3).fits(0, 0), 11);
        due("any", toldHill(-1).fits(0, 0), 11);
        due("not now", toldHill(4).fits(0, 0), 0);
        for (int step = -5; step <= 5; step++) {
            due("by " + step, toldHill(3, (4 + step + 12) % 12).fits(0, 0), 1);
            due("any, by " + step, toldHill(-1, (4 + step + 12) % 12).fits(0, 0), 1);
        }
        due("by 6", toldHill(3, 10).fits(0, 0), 0);
        due("-2", toldHill(-2).fits(0, 0), 0);
        due("12", toldHill(3, 12).fits(0, 0), 0);
        due("40 numbers", toldHill(toldFor40()).fits(0, 0), 1);
        due("the last is wrong", toldHill(lastChanged(toldFor40(), 0)).fits(0, 0), 0);
        due("the last is any", toldHill(lastChanged(toldFor40(), -1)).fits(0, 0), 1);
        toldFindings("fits", "BEYOND: no such sheet.", "MISSING.", "BEYOND: no such HILL.");
    }

    private static void toldFindings(String name, String noSheet, String missing, String noHill) {
        says(noSheet);
        within(name, row(0, 0), 0, 0, 3);
        says(missing);
        refused(MISSING, name, 3, 0);
        refused(MISSING, name, 3, 3);
        says(noHill);
        within(name, row(0, 0), 1, 0, 2);
    }

    private static void step() {
        promise = 25;
        says("The least of them.");
        due("an empty sheet", toldHill().step(0, 0), -5);
        due("any", toldHill(-1, -1).step(0, 0), -5);
        for (int step = -5; step <= 5; step++) {
            due("by " + step, toldHill(3, (4 + step + 12) % 12).step(0, 0), step);
        }
        due("behind two ages by -4 or 2", toldHill(-1, -1, 1).step(0, 0), -4);
        due("40 numbers", toldHill(toldFor40()).step(0, 0), 1);
        says("BEYOND, MISSING, BEYOND likewise.");
        within("step", row(0, 0), 0, 0, 3);
        refused(MISSING, "step", 3, 0);
        refused(MISSING, "step", 3, 3);
        within("step", row(0, 0), 1, 0, 2);
        says("NONE.");
        due("by 6", toldHill(3, 10).step(0, 0), NONE);
        due("the last is wrong", toldHill(lastChanged(toldFor40(), 0)).step(0, 0), NONE);
        refused(NONE, "step", 0, 0);
    }

    private static void kinds() {
        promise = 26;
        says("KINDS that it could be of, as a set, likewise.");
        due("an empty sheet", toldHill().kinds(0, 0), 127);
        due("any", toldHill(-1).kinds(0, 0), 127);
        due("not now", toldHill(4).kinds(0, 0), 0);
        due("a stone", toldHill(3, 3).kinds(0, 0), 1 << STONE);
        due("a scarp", toldHill(3, 11).kinds(0, 0), 1 << SCARP);
        due("a feud", toldHill(3, 1).kinds(0, 0), 1 << FEUD);
        due("all but these", toldHill(3, 5).kinds(0, 0), 1 << HILL | 1 << RIDGE | 1 << PARTNER | 1 << TWIN);
        due("40 numbers", toldHill(toldFor40()).kinds(0, 0), 1 << HILL | 1 << PARTNER);
        due("the last is wrong", toldHill(lastChanged(toldFor40(), 0)).kinds(0, 0), 0);
        HillDance none = toldHill(4);
        none.kinds(0, 0);
        due("none is no finding", none.status(-1), 0);
        toldFindings("kinds", "BEYOND: no such sheet.", "MISSING.", "BEYOND: no such HILL.");
    }

    private static void rains() {
        promise = 27;
        says("n times (1 to 20) two draws: RAIN becomes the first one's rest by 10;");
        HillDance x = new HillDance();
        due("once", x.rains(1), 0);
        due("z behind 2 draws", x.count(6), zBehind(1, 2));
        due("rain", x.rain(0), 4);
        due("20 times", x.rains(20), 0);
        due("z behind 42 draws", x.count(6), zBehind(1, 42));
        due("age", x.now(0), 21);
        due("rain", x.rain(0), (zBehind(1, 41) >>> 8) % 10);
        says("TURN of the HILL of the second one's rest by 8, if there is one, is 1 more (by 4);");
        // From z 1 the second draws give rests 0, then 3.
        HillDance few = shire(2, row(STONE, 0, 1, 3, 50), row(STONE, 6, 1, 3, 50), row(STONE, 9, 1, 3, 50));
        few.rains(1);
        due("hill 0", few.of(0, 3), 0);
        due("hill 1", few.of(1, 3), 3);
        few.rains(1);
        due("there is no hill 3", few.of(0, 3) * 16 + few.of(1, 3) * 4 + few.of(2, 3), 15);
        HillDance eight = stones(8);
        eight.seed(seedForLastHill());
        eight.rains(1);
        due("hill 7", eight.of(7, 3), 1);
        says("then an AGE: HEIGHT of all together then.");
        HillDance met = shire(0, row(PARTNER, 4, 1, 3, 50), row(STONE, 4, 1, 0, 50));
        due("turned first, met then, in rain 4", met.rains(1), 45 + 50);
        due("8 stones rise", stones(8).rains(1), 408);
        says("BEYOND.");
        within("rains", row(1), 0, 1, 20);
        says("STATE: AGE would be above 99999.");
        // No object comes here in 512 calls: the bound is kept all the same.
        HillDance old = aged(99980);
        due("20 from 99980", old.rains(20), STATE);
        due("z", old.count(6), 1);
        due("19 from 99980", old.rains(19), 99);
        due("1 from 99999", old.rains(1), STATE);
        due("age", old.now(0), 99999);
    }

    private static int zBehind(int z, int draws) {
        int v = z;
        for (int i = 0; i < draws; i++) {
            v = v * 1103515245 + 12345;
        }
        return v;
    }

    private static int seedForLastHill() {
        int z = 1;
        while ((zBehind(z, 2) >>> 8) % 8 != 7) {
            z++;
        }
        return z;
    }

    private static void odds() {
        promise = 28;
        says("The odds that n (0 to 20) such second draws are all of HILLS that there are and that MEET none now:");
        HillDance none = new HillDance();
        due("no draws, no hills", none.odds(0, 0), 1);
        due("no draws, no hills", none.odds(0, 1), 1);
        due("20 draws, no hills", none.odds(20, 0), 0);
        due("20 draws, no hills", none.odds(20, 1), 1);
        due("20 draws of 8", stones(8).odds(20, 0), 1);
        due("20 draws of 8", stones(8).odds(20, 1), 1);
        due("20 draws of 7", stones(7).odds(20, 0), 79792266297612001L);
        due("20 draws of 7", stones(7).odds(20, 1), 1152921504606846976L);
        due("20 draws of 1", stones(1).odds(20, 0), 1);
        due("20 draws of 1", stones(1).odds(20, 1), 1152921504606846976L);
        HillDance met = stones(8);
        for (int h = 1; h < 8; h++) {
            met.change(h, 1, 0);
        }
        due("all meet", met.odds(1, 0), 0);
        due("all meet", met.odds(1, 1), 1);
        due("all meet, no draws", met.odds(0, 0), 1);
        says("a fraction in lowest terms: above (what 0), below the line (1).");
        long[][] terms = {{1, 8}, {1, 4}, {3, 8}, {1, 2}, {5, 8}, {3, 4}, {7, 8}, {1, 1}};
        for (int n = 1; n <= 8; n++) {
            due(n + " of 8, above", stones(n).odds(1, 0), terms[n - 1][0]);
            due(n + " of 8, below", stones(n).odds(1, 1), terms[n - 1][1]);
        }
        due("6 of 8, 20 draws, above", stones(6).odds(20, 0), 3486784401L);
        due("6 of 8, 20 draws, below", stones(6).odds(20, 1), 1L << 40);
        says("BEYOND.");
        within("odds", row(1, 0), 0, 0, 20);
        within("odds", row(1, 0), 1, 0, 1);
    }

    private static void seed() {
        promise = 29;
        says("z becomes v: what it was.");
        HillDance x = new HillDance();
        due("seed(MIN)", x.seed(MIN), 1);
        due("seed(MAX)", x.seed(MAX), MIN);
        due("seed(0)", x.seed(0), MAX);
        due("seed(SIZE)", x.seed(SIZE), 0);
        due("seed(1)", x.seed(1), SIZE);
        due("no finding, though it looks like one", x.status(-1), 0);
    }

    private static HillDance taped(int bytes) {
        HillDance x = usual();
        while (x.count(5) < bytes) {
            x.feed(' ', 1);
        }
        return x;
    }

    private static HillDance tape117() {
        return taped(117);
    }

    private static HillDance tape120() {
        return taped(120);
    }

    private static void feed() {
        promise = 30;
        says("THE TAPE gets the n lowest bytes of a number behind it, the highest of these first (n 1 to 4): "
            + "how many it has.");
        HillDance x = new HillDance();
        due("1 of 4", x.feed('x' << 24 | 'x' << 16 | 'x' << 8 | 'h', 1), 1);
        due("3 of 4", x.feed('x' << 24 | 'i' << 16 | 'l' << 8 | 'l', 3), 4);
        due("2 of 4", x.feed('x' << 24 | 'x' << 16 | ' ' << 8 | 'a', 2), 6);
        due("4 of 4", x.feed('t' << 24 | '0' << 16 | '1' << 8 | '1', 4), 10);
        due("text", x.text(), 1);
        due("valley", x.of(0, 1), 11);
        due("a number below 0", x.feed(-1, 4), 4);
        due("a byte 255", x.text(), -1);
        due("highest byte first", x.feed(';' << 24 | 'h' << 16 | 'i' << 8 | 'l', 4), 4);
        due("';' is the first", x.text(), -1);
        says("BEYOND: n.");
        within("feed", row('h', 1), 1, 1, 4);
        within("feed", row(MIN, 1), 1, 1, 4);
        says("FULL.");
        refused(PromiseEdgeTest::tape117, FULL, "feed", 0x20202020, 4);
        due("3 behind 117", tape117().feed(0x202020, 3), 120);
        for (int n = 1; n <= 4; n++) {
            refused(PromiseEdgeTest::tape120, FULL, "feed", 0x20202020, n);
        }
    }

    private static void wipe() {
        promise = 31;
        says("THE TAPE is empty: how many it had.");
        HillDance x = tape120();
        due("120", x.wipe(), 120);
        due("0", x.wipe(), 0);
        due("text of nothing", x.text(), -1);
        due("4 again", x.feed(0x68696c6c, 4), 4);
        due("of them alone", x.text(), 1);
        due("0 behind a text", x.wipe(), 0);
    }

    private static void text() {
        promise = 32;
        says("THE TAPE is a TEXT, and empty then; all that it tells is so, item by item: how many ITEMS.");
        HillDance x = new HillDance();
        feedText(x, "rain 3;hill at 4;rain 5;twin");
        due("4 items", x.text(), 4);
        due("the tape is empty", x.count(5), 0);
        due("the last rain", x.rain(0), 5);
        due("hill 0 at 4", x.valley(4, 0), 1);
        due("hill 1 at 0", x.valley(0, 0), 2);
        due("nothing is told twice", x.text(), -1);
        due("2 hills", x.count(1), 2);
        says("With a FAULT: -1 less the FAULT (nothing changes but that THE TAPE is empty; no finding).");
        for (String wrong : new String[] {"rain 5;hill at 3;hill at 12", "hill;", "stone#", "rain 9;7"}) {
            HillDance got = usual();
            got.wipe();
            feedText(got, wrong);
            due("text of '" + wrong + "'", got.text(), -1 - placeOf(wrong));
            due("no finding", got.status(-1), 0);
            HillDance want = usual();
            want.wipe();
            dueSame("'" + wrong + "' changed something", allOf(got), allOf(want));
        }
    }

    private static int placeOf(String wrong) {
        String[] bad = {"12", "#", "7"};
        for (String b : bad) {
            if (wrong.contains(b)) {
                return wrong.indexOf(b);
            }
        }
        return wrong.length();
    }

    private static void hold() {
        promise = 33;
        says("A SPOT holds a HILL, or nothing (-1): 1.");
        HillDance x = stones(8);
        due("spot 0, hill 7", x.hold(0, 7), 1);
        due("spot 9, hill 0", x.hold(9, 0), 1);
        due("spot 0", x.as(0, STONE), 7);
        due("spot 9", x.as(9, STONE), 0);
        due("another hill instead", x.hold(0, 3), 1);
        due("spot 0", x.as(0, STONE), 3);
        due("nothing", x.hold(0, -1), 1);
        due("nothing again", x.hold(0, -1), 1);
        due("spot 0", x.as(0, STONE), MISSING);
        due("one spot holds", x.count(7), 1);
        says("BEYOND.");
        within("hold", row(0, 0), 0, 0, 9);
        within("hold", row(0, -1), 0, 0, 9);
        within("hold", row(0, 0), 1, -1, 2);
        due("no hills", new HillDance().hold(0, 0), BEYOND);
    }

    private static void as() {
        promise = 34;
        says("What a SPOT holds as one of a kind (0 to 6): the number of the HILL.");
        HillDance all = with(HILL, 0, RIDGE, 0, PARTNER, 0, TWIN, 0, FEUD, 0, STONE, 0, SCARP, 0);
        for (int kind = 0; kind < 7; kind++) {
            all.hold(kind, kind);
            due("as its own kind", all.as(kind, kind), kind);
            due("as a hill", all.as(kind, HILL), kind);
        }
        says("BEYOND.");
        within("as", row(0, 0), 0, 0, 9);
        within("as", row(0, 0), 1, 0, 6);
        says("MISSING: it holds nothing.");
        for (int kind = 0; kind < 7; kind++) {
            refused(MISSING, "as", 1, kind);
        }
        says("KIND: it isn't of that kind, nor of one under it.");
        // Row: the kind that it is of; sign: as which it can be taken.
        String[] under = {"x......", "xx.....", "x.x....", "x.xx...", "x.xxx..", "x....x.", "xx....x"};
        HillDance x = with(STONE, 0, STONE, 0);
        x.hold(9, 1);
        for (int kind = 0; kind < 7; kind++) {
            x.change(1, 0, kind);
            for (int as = 0; as < 7; as++) {
                due(kind + " as " + as, x.as(9, as), under[kind].charAt(as) == 'x' ? 1 : KIND);
            }
        }
        refused(KIND, "as", 0, FEUD);
        refused(KIND, "as", 9, RIDGE);
    }

    private static void sheet() {
        promise = 35;
        says("A sheet has n numbers, all 0, of 8, 16 or 32 bits;");
        for (int bits : new int[] {8, 16, 32}) {
            HillDance x = stones(1);
            due("none", x.sheet(3, bits, 0), 0);
            due("it is there", x.judge(3), 0);
            due("it has no number", x.write(3, 0, 0), BEYOND);
            due("40", x.sheet(3, bits, 40), 40);
            due("the 40th", x.write(3, 39, 5), 1);
            due("the 1st", x.write(3, 0, 5), 1);
            due("made anew", x.sheet(3, bits, 40), 40);
            due("all are 0: the first", x.judge(3), 2);
            due("all are 0: the 40th", x.copy(3, 39, 3, 0, 1) + x.judge(3), 3);
        }
        says("bits 0: it is MISSING: n (0 if it is MISSING).");
        HillDance x = usual();
        due("of 40", x.sheet(0, 0, 40), 0);
        due("missing", x.judge(0), MISSING);
        due("missing again", x.sheet(0, 0, 0), 0);
        due("missing still", x.judge(0), MISSING);
        due("back again", x.sheet(0, 8, 1), 1);
        due("with a 0", x.load(0) + x.of(0, 4), 1);
        says("BEYOND: no such sheet, other bits.");
        within("sheet", row(0, 8, 3), 0, 0, 3);
        for (int bits : new int[] {-1, 1, 7, 9, 15, 17, 24, 31, 33, 64, -8, MIN, MAX}) {
            refused(BEYOND, "sheet", 0, bits, 3);
        }
        says("SIZE: n is below 0 (also with bits 0).");
        for (int bits : new int[] {0, 8, 16, 32}) {
            refused(SIZE, "sheet", 0, bits, -1);
            refused(SIZE, "sheet", 0, bits, MIN);
        }
        says("BEYOND: n is above 40.");
        for (int bits : new int[] {0, 8, 16, 32}) {
            refused(BEYOND, "sheet", 0, bits, 41);
            refused(BEYOND, "sheet", 0, bits, MAX);
        }
    }

    /** The height that a number brings when it is loaded from a sheet of so many bits; -1: it brings none. */
    private static int loaded(int bits, int v) {
        HillDance x = stones(1);
        fillSheet(x, 0, bits, v);
        return x.load(0) == 1 ? x.of(0, 4) : -1;
    }

    private static void write() {
        promise = 36;
        says("Number i of a sheet becomes v (its lowest bits): 1.");
        due("8 bits: 99", loaded(8, 99), 99);
        due("8 bits: 256 + 99", loaded(8, 256 + 99), 99);
        due("8 bits: -256", loaded(8, -256), 0);
        due("8 bits: MIN", loaded(8, MIN), 0);
        due("8 bits: MAX is -1", loaded(8, MAX), -1);
        due("8 bits: 128 is -128", loaded(8, 128), -1);
        due("16 bits: 256 + 99", loaded(16, 256 + 99), -1);
        due("16 bits: 65536 + 99", loaded(16, 65536 + 99), 99);
        due("16 bits: MIN + 7", loaded(16, MIN + 7), 7);
        due("32 bits: 65536 + 99", loaded(32, 65536 + 99), -1);
        due("32 bits: MIN + 7", loaded(32, MIN + 7), -1);
        due("32 bits: 99", loaded(32, 99), 99);
        due("8 bits: 255 is any", fitsWhenWritten(8, 255), 11);
        due("16 bits: 255 isn't", fitsWhenWritten(16, 255), 0);
        due("16 bits: 65535 is any", fitsWhenWritten(16, 65535), 11);
        due("32 bits: 65535 isn't", fitsWhenWritten(32, 65535), 0);
        due("32 bits: -1 is any", fitsWhenWritten(32, -1), 11);
        says("BEYOND: no such sheet.");
        within("write", row(0, 0, 0), 0, 0, 3);
        says("MISSING.");
        refused(MISSING, "write", 3, 0, 0);
        says("BEYOND: no such number.");
        within("write", row(0, 0, 0), 1, 0, 4);
        within("write", row(1, 0, 0), 1, 0, 3);
        HillDance empty = new HillDance();
        empty.sheet(0, 32, 0);
        due("of an empty sheet", empty.write(0, 0, 0), BEYOND);
    }

    private static void copy() {
        promise = 37;
        says("n numbers of a sheet from one on come to another one from one on (as they all were): n.");
        HillDance x = stones(6);
        fillSheet(x, 0, 8, 1, 2, 3, 4, 5, 9);
        due("on in itself", x.copy(0, 0, 0, 1, 5), 5);
        x.write(0, 0, 0);
        due("as they were", x.judge(0), 0);
        fillSheet(x, 0, 8, 9, 0, 1, 2, 3, 4);
        due("back in itself", x.copy(0, 1, 0, 0, 5), 5);
        x.write(0, 5, 5);
        due("as they were", x.judge(0), 0);
        x.sheet(1, 8, 40);
        due("6 to the end", x.copy(0, 0, 1, 34, 6), 6);
        due("and back", x.copy(1, 34, 0, 0, 6), 6);
        due("as they were", x.judge(0), 0);
        x.sheet(2, 8, 40);
        due("all 40", x.copy(1, 0, 2, 0, 40), 40);
        due("none at the end", x.copy(1, 40, 2, 40, 0), 0);
        due("none", x.copy(0, 0, 0, 0, 0), 0);
        x.sheet(3, 8, 0);
        due("none of an empty one", x.copy(3, 0, 3, 0, 0), 0);
        says("BEYOND: no such sheet (either).");
        within("copy", row(0, 0, 0, 0, 1), 0, 0, 3);
        within("copy", row(0, 0, 0, 0, 1), 2, 0, 3);
        refused(BEYOND, "copy", 3, 0, 4, 0, 1);
        refused(BEYOND, "copy", 4, 0, 3, 0, 1);
        says("MISSING: one is.");
        refused(MISSING, "copy", 3, 0, 0, 0, 1);
        refused(MISSING, "copy", 0, 0, 3, 0, 1);
        refused(MISSING, "copy", 3, 0, 3, 0, 0);
        says("KIND: they are not of as many bits.");
        refused(KIND, "copy", 0, 0, 1, 0, 1);
        refused(KIND, "copy", 1, 0, 0, 0, 0);
        refused(Edges::usual, KIND, "copy", 1, 99, 2, -1, -1);
        says("BEYOND: one has not so many, or from, to or n is below 0.");
        int[][] bad = {{0, 0, 3}, {4, 0, 2}, {5, 0, 1}, {6, 0, 0}, {0, 1, 2}, {0, 2, 1}, {0, 3, 0}, {-1, 0, 1}, {0, -1, 1},
            {0, 0, -1}, {-1, -1, 0}, {MAX, 0, 1}, {0, MAX, 1}, {0, 0, MAX}, {1, 1, MAX}, {MAX, MAX, MAX}, {MIN, 0, 1},
            {0, MIN, 1}, {0, 0, MIN}, {1, 1, MIN}};
        for (int[] b : bad) {
            refused(BEYOND, "copy", 0, b[0], 2, b[1], b[2]);
        }
    }

    private static void load() {
        promise = 38;
        says("It ends at the first that isn't 0 to 99, or for which there is no HILL.");
        HillDance x = stones(3);
        fillSheet(x, 0, 16, 0, 99, 100, 7);
        due("100", x.load(0), 2);
        due("0", x.of(0, 4), 0);
        due("99", x.of(1, 4), 99);
        due("the third is as it was", x.of(2, 4), 50);
        fillSheet(x, 0, 16, 8, -1, 9);
        due("-1", x.load(0), 1);
        due("8", x.of(0, 4), 8);
        due("the second is as it was", x.of(1, 4), 99);
        fillSheet(x, 0, 16, 1, 2, 3, 4);
        due("no 4th hill", x.load(0), 3);
        due("1, 2, 3", x.now(1), 6);
        x.sheet(0, 8, 0);
        due("an empty sheet", x.load(0), 0);
        due("no hills", emptyWithSheet().load(0), 0);
        HillDance eight = stones(8);
        eight.sheet(0, 8, 40);
        due("8 of 40", eight.load(0), 8);
        due("all are 0", eight.now(1), 0);
        due("no finding", eight.status(-1), 0);
        says("BEYOND: no such sheet.");
        within("load", row(0), 0, 0, 3);
        says("MISSING.");
        refused(MISSING, "load", 3);
    }

    private static HillDance emptyWithSheet() {
        HillDance x = new HillDance();
        x.sheet(0, 8, 1);
        return x;
    }

    private static void judge() {
        promise = 39;
        says("0 if so; else 1 and the place of the first that isn't so.");
        HillDance x = stones(8);
        x.sheet(0, 8, 0);
        due("an empty sheet", x.judge(0), 0);
        fillSheet(x, 0, 8, 0, 1, 2, 3, 4, 5, 6, 7);
        due("so, all 8", x.judge(0), 0);
        x.write(0, 7, 8);
        due("the last isn't", x.judge(0), 8);
        x.write(0, 0, 8);
        due("the first isn't", x.judge(0), 1);
        fillSheet(x, 0, 8, 0, 1, 2, 3, 4, 5, 6, 7, 8);
        due("there is no 9th hill", x.judge(0), 9);
        due("no hills", emptyWithSheet().judge(0), 1);
        fillSheet(x, 0, 8, -1);
        due("-1 is no valley", x.judge(0), 1);
        fillSheet(x, 0, 8, 12);
        due("12 is no valley", x.judge(0), 1);
        x.change(0, 3, 3);
        fillSheet(x, 0, 8, 11);
        due("11 is faced from 0", x.judge(0), 0);
        due("no finding", x.status(-1), 0);
        says("BEYOND: no such sheet.");
        within("judge", row(0), 0, 0, 3);
        says("MISSING.");
        refused(MISSING, "judge", 3);
    }

    private static void spoil(HillDance x) {
        x.rain(9);
        x.seed(-7);
        x.rains(3);
        for (int what = 0; what < 6; what++) {
            x.change(1, what, 3);
        }
        x.hold(0, -1);
        x.hold(5, 1);
        x.hill(FEUD, 11);
    }

    private static void images() {
        promise = 40;
        says("All but THE TAPE and SHEETS is kept: 1.");
        HillDance x = usual();
        List<Long> was = shireOf(x);
        due("image", x.image(), 1);
        spoil(x);
        x.write(0, 0, 77);
        x.sheet(1, 0, 0);
        x.undo();
        dueSame("behind undo", shireOf(x), was);
        due("a sheet's number stays", x.load(0) * 1000 + x.of(0, 4), 3077);
        due("a missing sheet stays so", x.load(1), MISSING);
        HillDance y = usual();
        y.image();
        y.wipe();
        feedText(y, "hill");
        y.undo();
        due("the tape stays", y.count(5), 4);
        due("as it is", y.text(), 1);
        HillDance none = new HillDance();
        none.image();
        none.hill(HILL, 0);
        due("an empty shire", none.undo(), 0);
        due("no hills", none.count(1), 0);
        promise = 41;
        says("It becomes what was kept latest (which stays): AGE.");
        HillDance z = usual();
        z.go(3);
        z.image();
        List<Long> latest = shireOf(z);
        for (int i = 0; i < 3; i++) {
            spoil(z);
            due("undo", z.undo(), 10);
            dueSame("behind undo " + i, shireOf(z), latest);
        }
        due("undo at once again", z.undo(), 10);
        z.go(1);
        z.image();
        due("the later one", z.undo(), 11);
        says("NONE: nothing is kept.");
        refused(PromiseEdgeTest::torn, NONE, "undo");
        due("never was", new HillDance().undo(), NONE);
        promise = 42;
        says("Nothing is kept: 1 if something was, else 0.");
        HillDance t = usual();
        due("something was", t.tear(), 1);
        due("nothing was", t.tear(), 0);
        due("undo", t.undo(), NONE);
        due("age", t.count(0), 7);
        due("image", t.image(), 1);
        due("something was again", t.tear(), 1);
        due("never was", new HillDance().tear(), 0);
    }

    private static HillDance torn() {
        HillDance x = usual();
        x.tear();
        return x;
    }

    private static void count() {
        promise = 43;
        says("BEYOND: another what.");
        within("count", row(0), 0, 0, 7);
        HillDance x = tape120();
        for (int spot = 0; spot < 10; spot++) {
            x.hold(spot, 1);
        }
        x.seed(MIN);
        due("120 bytes", x.count(5), 120);
        due("z", x.count(6), MIN);
        due("10 spots", x.count(7), 10);
    }

    private static void status() {
        promise = 44;
        says("How many acts answered a finding ever (undo() takes none back):");
        HillDance x = usual();
        x.rain(10);
        x.image();
        x.rain(10);
        x.load(3);
        x.undo();
        due("BEYOND", x.status(0), 2);
        due("MISSING", x.status(5), 1);
        due("all", x.status(-1), 3);
        says("which -1: all, 0 to 6: BEYOND to SIZE.");
        HillDance all = crowded();
        all.tear();
        int[] times = {3, 2, 4, 1, 0, 5, 6};
        for (int i = 0; i < 6; i++) {
            findOnce(all, times, i);
        }
        int sum = 0;
        for (int which = 0; which < 7; which++) {
            due("status(" + which + ")", all.status(which), times[which]);
            sum += times[which];
        }
        due("status(-1)", all.status(-1), sum);
        HillDance old = aged(99999);
        old.go(1);
        due("STATE", old.status(4), 1);
        due("all", old.status(-1), 1);
        says("BEYOND (counted from then on): another one.");
        within("status", row(0), 0, -1, 6);
        HillDance odd = new HillDance();
        due("status(7)", odd.status(7), BEYOND);
        due("counted", odd.status(0), 1);
        due("status(-2)", odd.status(-2), BEYOND);
        due("counted", odd.status(-1), 2);
    }

    /** Each finding once more that is due so many times. */
    private static void findOnce(HillDance x, int[] times, int i) {
        int[][] args = {{10}, {HILL, 0}, {0, STONE}, {}, {}, {3}, {0, 8, -1}};
        String[] names = {"rain", "hill", "as", "undo", "", "load", "sheet"};
        for (int which = 0; which < 7; which++) {
            if (i < times[which]) {
                call(x, names[which], args[which]);
            }
        }
    }

    public static void main(String[] args) throws IOException {
        newObject();
        rain();
        hill();
        of();
        change();
        valley();
        go();
        now();
        ahead();
        when();
        meet();
        round();
        skylines();
        wallflowers();
        stand();
        stepFor();
        turnFor();
        kindFor();
        rainFor();
        road();
        climb();
        open();
        lay();
        fits();
        step();
        kinds();
        rains();
        odds();
        seed();
        feed();
        wipe();
        text();
        hold();
        as();
        sheet();
        write();
        copy();
        load();
        judge();
        images();
        count();
        status();
        nothingIsLeftOver(1, 44);
        end();
    }
}
