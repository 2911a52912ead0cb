import java.io.IOException;
import java.math.BigInteger;

// What stands ahead of the promises in ../shared/DOC.md: each sentence that names a boundary case has a test of its own.
public final class TermEdgeTest extends Edges {
    private static void calls() {
        says("An object is used for at most 512 calls after it has been made;");
        HillDance x = with(HILL, 0);
        for (int i = 2; i <= 510; i++) {
            x.rain(10);
        }
        due("the 511th call", x.go(1), 0);
        due("the 512th call", x.status(-1), 509);
    }

    private static void findings() {
        says("LOW is -1000001; LOW BEYOND, LOW - 1 FULL, LOW - 2 KIND, LOW - 3 NONE, LOW - 4 STATE, LOW - 5 MISSING, "
            + "LOW - 6 SIZE (in longs, too).");
        HillDance x = crowded();
        x.tear();
        due("BEYOND", x.rain(10), -1000001);
        due("BEYOND in a long", x.odds(21, 0), -1000001L);
        due("FULL", x.hill(HILL, 0), -1000002);
        due("KIND", x.as(0, STONE), -1000003);
        due("NONE", x.undo(), -1000004);
        due("STATE", old().go(40), -1000005);
        due("MISSING", x.load(3), -1000006);
        due("SIZE", x.sheet(0, 8, -1), -1000007);
    }

    /** At age 99960, which more than 512 calls have brought: no object can come there in fewer. */
    private static HillDance old() {
        HillDance x = new HillDance();
        for (int i = 0; i < 1666; i++) {
            x.go(60);
        }
        return x;
    }

    private static HillDance fullTape() {
        HillDance x = usual();
        for (int i = 0; i < 28; i++) {
            x.feed(0x20202020, 4);
        }
        x.feed(0x2020, 2);
        return x;
    }

    private static void order() {
        says("Each act tells its findings in the order in which they are asked (that of its words);");
        refused(TermEdgeTest::fullTape, FULL, "feed", 0, 1);
        refused(TermEdgeTest::fullTape, BEYOND, "feed", 0, 5);
        refused(Edges::crowded, FULL, "hill", 0, 0);
        refused(Edges::crowded, BEYOND, "hill", 7, 0);
        refused(Edges::crowded, BEYOND, "hill", 0, 12);
        due("go: BEYOND, STATE", old().go(61), BEYOND);
        due("rains: BEYOND, STATE", agedBy(39).rains(21), BEYOND);
        for (String name : new String[] {"fits", "step", "kinds"}) {
            refused(BEYOND, name, 4, 3);
            refused(MISSING, name, 3, 3);
            refused(BEYOND, name, 0, 3);
        }
        refused(BEYOND, "as", 1, 7);
        refused(MISSING, "as", 1, STONE);
        refused(KIND, "as", 0, STONE);
        refused(BEYOND, "sheet", 4, 8, -1);
        refused(BEYOND, "sheet", 0, 7, -1);
        refused(SIZE, "sheet", 0, 8, -1);
        refused(BEYOND, "write", 4, -1, 0);
        refused(MISSING, "write", 3, -1, 0);
        refused(BEYOND, "write", 0, -1, 0);
        refused(BEYOND, "copy", 3, -1, 4, 0, 1);
        refused(MISSING, "copy", 1, -1, 3, 0, 1);
        refused(KIND, "copy", 0, -1, 1, 0, 1);
        refused(BEYOND, "copy", 0, -1, 2, 0, 1);
    }

    private static HillDance agedBy(int more) {
        HillDance x = old();
        x.go(more);
        return x;
    }

    private static void refusals() {
        says("one that answers a finding changes nothing but status().");
        refused(BEYOND, "rain", 10);
        refused(BEYOND, "change", 0, 4, 100);
        refused(BEYOND, "go", 61);
        refused(BEYOND, "rains", 21);
        refused(BEYOND, "hold", 0, 3);
        refused(BEYOND, "sheet", 0, 8, 41);
        refused(BEYOND, "copy", 0, 0, 2, 0, 3);
        refused(MISSING, "load", 3);
        refused(Edges::crowded, FULL, "hill", 0, 0);
        refused(TermEdgeTest::fullTape, FULL, "feed", 0, 1);
        says("Sets are told as bits;");
        HillDance x = with(STONE, 11, STONE, 0, STONE, 1, STONE, 2, STONE, 3, STONE, 4, STONE, 5, STONE, 11);
        due("hill 7 alone", x.of(0, 10), 128);
        due("hills 0 and 7", x.valley(11, 0), 129);
        due("valleys 0 to 5 and 11", x.now(3), 2048 + 63);
        due("no one", x.of(1, 10), 0);
        due("all of them", x.wallflowers(0), 255);
    }

    private static void leastNumber() {
        says("Quotients are cut.");
        HillDance x = with(TWIN, 0);
        int[] halves = {0, 1, 1, 2, 2, 3, 3, 4, 4, 5};
        for (int rain = 0; rain <= 9; rain++) {
            x.rain(rain);
            due("a twin sinks in rain " + rain, x.of(0, 9), halves[rain]);
        }
        says("of several that would do the least number counts, where nothing else is told.");
        // From 4 the twin goes on by 1, from 3, where the other stone is, by 2: either way it meets at 5 behind an age.
        due("stand", shire(2, row(TWIN, 0, 1, 3, 50), row(STONE, 5, 1, 0, 50), row(STONE, 3, 1, 0, 50)).stand(0, 1), 3);
        due("stepFor", with(HILL, 5, STONE, 5).stepFor(0, 1), -5);
        HillDance tie = shire(4, row(3, 2, -2, 3, 46), row(2, 9, -1, 2, 75), row(2, 2, 3, 0, 6));
        tie.change(0, 3, 1);
        due("with turn 1", tie.meet(0, 1), 10);
        tie.change(0, 3, 0);
        due("with turn 0", tie.meet(0, 1), 10);
        due("turnFor", tie.turnFor(0, 1), 0);
        due("kindFor", with(STONE, 5, STONE, 5).kindFor(0, 1), HILL);
        due("lay", with(STONE, 5).lay(8, 99, 5), 0);
        due("lay", with(STONE, 5).lay(0, 99, 5), 1);
    }

    private static void ring() {
        says("VALLEYS 0 to 11 in a ring (behind 11 comes 0, ahead of 0 is 11).");
        HillDance x = shire(2, row(HILL, 11, 1, 1, 50), row(HILL, 0, -1, 3, 50), row(RIDGE, 10, 5, 0, 50),
            row(RIDGE, 1, -5, 0, 50));
        due("a hill at 11 faces on", x.of(0, 6), 0);
        due("a hill at 0 faces back", x.of(1, 6), 11);
        due("so they meet", x.of(0, 10), 2);
        x.go(1);
        due("on from 11", x.of(0, 1), 0);
        due("back from 0", x.of(1, 1), 11);
        due("10 on from 10", x.of(2, 1), 8);
        due("10 back from 1", x.of(3, 1), 3);
        due("a road over 0", x.road(10, 2, 99), 4);
        due("a road back over 0", x.road(2, 10, 99), 4);
        refused(BEYOND, "hill", HILL, 12);
        refused(BEYOND, "hill", HILL, -1);
    }

    private static void hills() {
        says("RAIN (0 to 9; 2 at first).");
        due("rain", new HillDance().rain(0), 2);
        within("rain", row(0), 0, 0, 9);
        says("HILLS 0, 1, .. (at most 8)");
        HillDance x = new HillDance();
        for (int i = 0; i < 7; i++) {
            due("hill", x.hill(i, i), i);
        }
        feedText(x, "hill;hill");
        due("an 8th and a 9th", x.text(), -6);
        feedText(x, "hill");
        due("an 8th", x.text(), 1);
        due("a 9th", x.hill(HILL, 0), FULL);
        due("8 hills", x.count(1), 8);
        says("each AT a VALLEY (several may be)");
        HillDance all = with(STONE, 11, STONE, 11, STONE, 11, STONE, 11, STONE, 11, STONE, 11, STONE, 11, STONE, 11);
        due("all at 11", all.valley(11, 0), 255);
        due("none at 0", all.valley(0, 0), 0);
        due("all meet the 7 others", all.of(7, 10), 127);
        due("all meet", all.go(1), 8);
        says("a STEP (-5 to 5; 1 at first)");
        trait(2, -5, 5, 1);
        says("a TURN (0 to 3; 0 at first)");
        trait(3, 0, 3, 0);
        says("HEIGHT (0 to 99; 50 at first)");
        trait(4, 0, 99, 50);
        says("BOWED (how often; 0 to 9999; 0 at first).");
        trait(5, 0, 9999, 0);
    }

    private static void trait(int what, int least, int most, int first) {
        for (int kind = 0; kind < 7; kind++) {
            due("at first", with(kind, 3).of(0, what), first);
        }
        within("change", row(1, what, first), 2, least, most);
        HillDance x = with(HILL, 3);
        due("the least", x.change(0, what, least), first);
        due("the most", x.change(0, what, most), least);
        due("is", x.of(0, what), most);
    }

    private static void facing() {
        says("the VALLEY that is 0, 1, 6 or 11 further on than that AT which it is, by TURN 0, 1, 2, 3.");
        int[] valleys = {0, 1, 5, 6, 11};
        int[][] faces = {{0, 1, 6, 11}, {1, 2, 7, 0}, {5, 6, 11, 4}, {6, 7, 0, 5}, {11, 0, 5, 10}};
        HillDance x = with(STONE, 0);
        for (int i = 0; i < valleys.length; i++) {
            x.change(0, 1, valleys[i]);
            for (int turn = 0; turn < 4; turn++) {
                x.change(0, 3, turn);
                due("from " + valleys[i] + " by " + turn, x.of(0, 6), faces[i][turn]);
            }
        }
        says("Two HILLS MEET, if each FACES the VALLEY AT which the other one is.");
        HillDance one = with(STONE, 4);
        due("one that faces its own valley meets none", one.of(0, 10), 0);
        due("and none bows", one.go(1), 0);
        due("it rose", one.of(0, 4), 51);
        HillDance two = with(STONE, 0, STONE, 11);
        two.change(0, 3, 3);
        due("only one faces the other", two.of(0, 10), 0);
        due("only one is faced", two.of(1, 10), 0);
        two.change(1, 3, 1);
        due("both, over 0", two.of(0, 10), 2);
        two.change(1, 1, 0);
        two.change(1, 3, 0);
        due("at one valley, one looks away", two.of(1, 10), 0);
        two.change(0, 3, 2);
        two.change(1, 1, 6);
        two.change(1, 3, 2);
        due("across, over 0", two.of(1, 10), 1);
    }

    /** Hill 0 of a kind, step, turn and height at valley 11, and stones beside it that look on. */
    private static HillDance beside(int kind, int step, int turn, int height, int stones) {
        HillDance x = shire(2, row(kind, 11, step, turn, height));
        for (int i = 1; i <= stones; i++) {
            x.hill(STONE, 11);
            x.change(i, 3, 1);
        }
        return x;
    }

    private static void moves(HillDance x, int moves, int valley) {
        due("moves", x.of(0, 7), moves);
        x.go(1);
        due("and is at", x.of(0, 1), valley);
    }

    private static void moving() {
        says("MOVES (VALLEYS on in an AGE; below 0: back):");
        moves(beside(HILL, 5, 0, 50, 0), 5, 4);
        moves(beside(HILL, 0, 0, 50, 0), 0, 11);
        moves(beside(HILL, -5, 0, 50, 0), -5, 6);
        moves(beside(RIDGE, 5, 0, 50, 0), 10, 9);
        moves(beside(RIDGE, -5, 0, 50, 0), -10, 1);
        moves(beside(STONE, 5, 0, 50, 7), 0, 11);
        says("SCARP: as a RIDGE, and 1 if HEIGHT is above 50.");
        moves(beside(SCARP, 5, 0, 50, 0), 10, 9);
        moves(beside(SCARP, 5, 0, 51, 0), 11, 10);
        moves(beside(SCARP, -5, 0, 50, 0), -10, 1);
        moves(beside(SCARP, -5, 0, 99, 0), -9, 2);
        says("PARTNER: as a HILL, but 0, if it MEETS any other one.");
        moves(beside(PARTNER, 5, 0, 50, 1), 5, 4);
        HillDance met = beside(PARTNER, 5, 0, 50, 1);
        met.change(1, 3, 0);
        moves(met, 0, 11);
        says("TWIN: as a PARTNER, and 1 for each other HILL AT its VALLEY.");
        moves(beside(TWIN, 5, 0, 50, 0), 5, 4);
        moves(beside(TWIN, 5, 0, 50, 7), 12, 11);
        moves(beside(TWIN, -5, 0, 50, 7), 2, 1);
        HillDance twin = beside(TWIN, 5, 0, 50, 7);
        twin.change(1, 3, 0);
        moves(twin, 7, 6);
        says("FEUD: 0 less as a TWIN.");
        moves(beside(FEUD, 5, 0, 50, 0), -5, 6);
        moves(beside(FEUD, 5, 0, 50, 7), -12, 11);
        moves(beside(FEUD, -5, 0, 50, 7), -2, 9);
        HillDance feud = beside(FEUD, 5, 0, 50, 7);
        feud.change(1, 3, 0);
        moves(feud, -7, 4);
    }

    private static void turns(int kind, int turn, int height, int turns, int then) {
        HillDance x = beside(kind, 1, turn, height, 0);
        due("turns", x.of(0, 8), turns);
        x.go(1);
        due("turn then", x.of(0, 3), then);
    }

    private static void turning() {
        says("TURNS (TURN becomes so much more, by 4):");
        turns(HILL, 3, 50, 1, 0);
        turns(RIDGE, 3, 99, 0, 3);
        turns(SCARP, 1, 99, 2, 3);
        turns(SCARP, 2, 99, 2, 0);
        turns(SCARP, 3, 99, 2, 1);
        turns(PARTNER, 3, 99, 1, 0);
        turns(STONE, 3, 99, 0, 3);
        says("TWIN: as a PARTNER, and 1 if its HEIGHT is above 50.");
        turns(TWIN, 3, 50, 1, 0);
        turns(TWIN, 3, 51, 2, 1);
        turns(TWIN, 2, 51, 2, 0);
        says("FEUD: 3 times as a TWIN.");
        turns(FEUD, 0, 50, 3, 3);
        turns(FEUD, 3, 50, 3, 2);
        turns(FEUD, 0, 51, 6, 2);
        turns(FEUD, 3, 51, 6, 1);
    }

    private static void sinking() {
        says("SINKS (so much less HEIGHT in an AGE, if it MEETS any):");
        int[][] sinks = {{1, 0, 1, 0, 0, 0, 1}, {1, 9, 10, 5, 5, 0, 10}};
        for (int kind = 0; kind < 7; kind++) {
            for (int wet = 0; wet < 2; wet++) {
                HillDance x = beside(kind, 0, 0, 50, 1);
                x.rain(9 * wet);
                due("told though it meets none, kind " + kind, x.of(0, 9), sinks[wet][kind]);
                x.go(1);
                due("but it rises, kind " + kind, x.of(0, 4), 51);
                HillDance met = with(kind, 11, STONE, 11);
                met.rain(9 * wet);
                met.go(1);
                due("it sinks, kind " + kind, met.of(0, 4), 50 - sinks[wet][kind]);
            }
        }
        says("TWIN: half (cut) of a PARTNER.");
        HillDance twin = with(TWIN, 0);
        twin.rain(0);
        due("half of 1", twin.of(0, 9), 0);
        twin.rain(1);
        due("half of 2", twin.of(0, 9), 1);
        twin.rain(8);
        due("half of 9", twin.of(0, 9), 4);
    }

    private static void ages() {
        says("AN AGE goes by, all at once, by how all is ahead of it:");
        // Each way around: the one that leaves is told ahead of the twin that counts it, and behind it.
        HillDance x = with(HILL, 6, TWIN, 6);
        x.change(1, 3, 1);
        HillDance y = with(TWIN, 6, HILL, 6);
        y.change(0, 3, 1);
        x.go(1);
        y.go(1);
        due("the twin counted the hill", x.of(1, 1), 8);
        due("the twin counted the hill", y.of(0, 1), 8);
        HillDance pair = with(PARTNER, 6, PARTNER, 6);
        pair.go(1);
        due("both had met", pair.now(5), 2);
        due("both stayed", pair.now(3), 64);
        says("HEIGHT of one that MEETS any is less by what it SINKS (0 at least)");
        due("5 less 6", metOnce(5, 0).of(0, 4), 0);
        due("6 less 6", metOnce(6, 0).of(0, 4), 0);
        due("7 less 6", metOnce(7, 0).of(0, 4), 1);
        due("0 less 6", metOnce(0, 0).of(0, 4), 0);
        says("and it BOWED once more (9999 at most);");
        due("9998 and once", metOnce(50, 9998).of(0, 5), 9999);
        due("9999 and once", metOnce(50, 9999).of(0, 5), 9999);
        says("HEIGHT of others is 1 more (99 at most).");
        HillDance high = shire(2, row(HILL, 0, 1, 1, 98), row(STONE, 5, 1, 1, 99), row(SCARP, 8, 1, 1, 0));
        high.go(1);
        due("98 and 1", high.of(0, 4), 99);
        due("99 and 1", high.of(1, 4), 99);
        due("0 and 1", high.of(2, 4), 1);
        due("none bowed", high.now(5), 0);
        says("AGE is one more (99999 at most).");
        due("at first", new HillDance().now(0), 0);
        HillDance last = agedBy(39);
        due("the last age", last.now(0), 99999);
        due("a look ahead goes on all the same", last.skylines(0, 200), 0);
        due("it is the last age still", last.now(0), 99999);
    }

    /** A partner in rain 5 that met a stone for an age: it sinks by 6. */
    private static HillDance metOnce(int height, int bowed) {
        HillDance x = shire(5, row(PARTNER, 3, 1, 0, height), row(STONE, 3, 1, 0, 50));
        x.change(0, 5, bowed);
        x.go(1);
        return x;
    }

    private static void roads() {
        says("it is OPEN for a CLIMB (0 to 99), if no HILL AT a VALLEY between its two ends is higher than that.");
        HillDance x = shire(2, row(STONE, 0, 1, 0, 40), row(STONE, 0, 1, 0, 30), row(STONE, 6, 1, 0, 99));
        due("as high as that", x.road(11, 1, 40), 2);
        due("higher than that", x.road(11, 1, 39), NONE);
        due("the higher one of two counts", x.climb(11, 1), 40);
        due("at the one end", x.road(0, 1, 0), 1);
        due("at the other end", x.road(1, 0, 0), 1);
        due("at both ends", x.road(0, 6, 0), 6);
        x.change(0, 4, 99);
        due("for 99 each is open", x.road(11, 1, 99), 2);
        due("for 98 none is", x.road(11, 1, 98), NONE);
        x.change(0, 4, 0);
        x.change(1, 4, 0);
        due("for 0 one of height 0 is", x.road(11, 1, 0), 2);
        within("road", row(1, 4, 50), 2, 0, 99);
    }

    /** z behind so many draws, reckoned without wrap-around. */
    private static int drawn(int z, int draws) {
        BigInteger all = BigInteger.ONE.shiftLeft(32);
        BigInteger v = BigInteger.valueOf(z);
        for (int i = 0; i < draws; i++) {
            v = v.multiply(BigInteger.valueOf(1103515245)).add(BigInteger.valueOf(12345)).mod(all);
        }
        return v.intValue();
    }

    private static int rest(int z, int by) {
        return (int) ((z & 0xffffffffL) / 256 % by);
    }

    private static void draws() {
        says("z is told (1 at first);");
        due("z", new HillDance().count(6), 1);
        says("each makes it z * 1103515245 + 12345 (an int), and gives z >>> 8.");
        for (int z : new int[] {0, 1, 2, -1, MIN, MAX, 123456789, -987654321}) {
            HillDance x = with(STONE, 0, STONE, 1, STONE, 2, STONE, 3, STONE, 4, STONE, 5, STONE, 6, STONE, 7);
            x.seed(z);
            x.rains(1);
            due("z from " + z, x.count(6), drawn(z, 2));
            due("rain from " + z, x.rain(0), rest(drawn(z, 1), 10));
            for (int h = 0; h < 8; h++) {
                due("turn of " + h + " from " + z, x.of(h, 3), h == rest(drawn(z, 2), 8) ? 1 : 0);
            }
        }
    }

    private static void fault(String text, int place) {
        dueText(text, -1 - place);
    }

    private static void tokens() {
        says("A TEXT is read from THE TAPE (bytes, at most 120).");
        dueText("hill" + " ".repeat(116), 1);
        dueText(" ".repeat(116) + "hill", 1);
        fault(" ".repeat(114) + "hill;-", 119);
        fault(" ".repeat(115) + "hill;", 120);
        says("TOKENS, each as long as can be:");
        fault("hillat 3", 0);
        fault("hillhill", 0);
        fault("hill at 1 1", 10);
        fault("hill at 3stepturn 1", 9);
        dueText("hill at11step1turn1high1", 1);
        says("WORDS (letters a to z)");
        fault("a", 0);
        fault("zhill", 0);
        fault("hillz", 0);
        fault("hilla", 0);
        fault("hill aat 1", 5);
        fault("hilL", 0);
        says("NUMBERS (digits, 999 at most)");
        fault("hill at 999", 8);
        fault("hill at 1000", 8);
        fault("hill at 4294967296", 8);
        fault("hill at 18446744073709551616", 8);
        fault("rain " + "9".repeat(115), 5);
        dueText("rain " + "0".repeat(114) + "9", 1);
        says("SIGNS ; and - (one each)");
        fault("hill;;hill", 5);
        fault("hill step --1", 11);
        fault("hill--", 4);
        says("blanks may stand between.");
        dueText("hill;ridge;rain9", 3);
        dueText("  hill   at   0   ;   rain   0  ", 2);
        dueText("hill step - 5", 1);
        fault("hi ll", 0);
        fault("hill at 1 2", 10);
        fault("hill\t", 4);
        fault("hill\n;hill", 4);
    }

    private static void items() {
        says("TEXT: ITEM { ; ITEM }.");
        fault("", 0);
        fault("   ", 3);
        fault(";", 0);
        fault(";hill", 0);
        fault("hill;", 5);
        fault("hill hill", 5);
        fault("hill rain 1", 5);
        dueText("hill", 1);
        dueText("rain1;rain1;rain1;rain1;rain1;rain1;rain1;rain1;rain1;rain1;"
            + "rain1;rain1;rain1;rain1;rain1;rain1;rain1;rain1;rain1;rain1", 20);
        says("hill, ridge, partner, twin, feud, stone or scarp,");
        String[] words = {"hill", "ridge", "partner", "twin", "feud", "stone", "scarp"};
        for (int kind = 0; kind < 7; kind++) {
            HillDance x = new HillDance();
            feedText(x, words[kind]);
            due(words[kind], x.text(), 1);
            due("kind of " + words[kind], x.of(0, 0), kind);
            fault(words[kind].substring(1), 0);
            fault(words[kind].substring(0, words[kind].length() - 1), 0);
            fault(words[kind] + "s", 0);
        }
        says("perhaps at and a NUMBER (a VALLEY; 0 without),");
        told("hill", 1, 0);
        told("hill at 0", 1, 0);
        told("hill at 11", 1, 11);
        fault("hill at 12", 8);
        fault("hill at -1", 8);
        fault("hill at", 7);
        fault("hill at at 1", 8);
        fault("hill at 1 at 1", 10);
        says("perhaps step, perhaps - and a NUMBER (0 to 5),");
        told("hill", 2, 1);
        told("hill step 0", 2, 0);
        told("hill step -0", 2, 0);
        told("hill step 5", 2, 5);
        told("hill step -5", 2, -5);
        fault("hill step 6", 10);
        fault("hill step -6", 11);
        fault("hill step", 9);
        fault("hill step -", 11);
        fault("hill - 1", 5);
        fault("hill step 1 step 1", 12);
        fault("hill step 1 at 1", 12);
    }

    private static void told(String text, int what, int want) {
        HillDance x = new HillDance();
        feedText(x, text);
        due("text of '" + text + "'", x.text(), 1);
        due("of(0, " + what + ") of '" + text + "'", x.of(0, what), want);
    }

    private static void itemsGoOn() {
        says("perhaps turn and a NUMBER (0 to 3),");
        told("hill", 3, 0);
        told("hill turn 0", 3, 0);
        told("hill turn 3", 3, 3);
        fault("hill turn 4", 10);
        fault("hill turn -1", 10);
        fault("hill turn", 9);
        fault("hill turn 1 turn 1", 12);
        fault("hill turn 1 step 1", 12);
        says("perhaps high and a NUMBER (0 to 99):");
        told("hill", 4, 50);
        told("hill high 0", 4, 0);
        told("hill high 99", 4, 99);
        fault("hill high 100", 10);
        fault("hill high -1", 10);
        fault("hill high", 9);
        fault("hill high 1 high 1", 12);
        fault("hill high 1 turn 1", 12);
        says("rain, a NUMBER (0 to 9).");
        HillDance x = new HillDance();
        feedText(x, "rain 0");
        due("rain 0", x.text(), 1);
        due("rain", x.rain(5), 0);
        feedText(x, "rain 9");
        due("rain 9", x.text(), 1);
        due("rain", x.rain(5), 9);
        fault("rain 10", 5);
        fault("rain -1", 5);
        fault("rain", 4);
        fault("rain;", 4);
        fault("rain 1 at 1", 7);
        fault("rain 1 1", 7);
    }

    private static void faults() {
        says("FAULT: the place (from 0) of the first byte of the first TOKEN that can't stand there");
        fault("hill at 12;hill at 13", 8);
        fault("hill;hill at 13 #", 13);
        fault("   7", 3);
        says("a NUMBER that isn't as told");
        fault("hill at 12", 8);
        fault("7", 0);
        fault("hill 7", 5);
        fault("hill;7", 5);
        says("another WORD");
        fault("at 7", 0);
        fault("mill", 0);
        fault("hill bt 7", 5);
        fault("hill step turn", 10);
        fault("rain hill", 5);
        fault("hill;at 7", 5);
        says("a byte that begins no TOKEN");
        for (int b = 0; b < 256; b++) {
            if (b != ' ' && b != ';' && b != '-' && !(b >= 'a' && b <= 'z') && !(b >= '0' && b <= '9')) {
                fault((char) b + "hill", 0);
                fault("hill" + (char) b, 4);
                fault("hill at " + (char) b + "1", 8);
            }
        }
        says("the WORD of a 9th HILL: its own");
        HillDance x = with(STONE, 0, STONE, 0, STONE, 0, STONE, 0, STONE, 0, STONE, 0, STONE, 0);
        feedText(x, "rain 5; twin ; feud at 99");
        due("a 9th at 15", x.text(), -16);
        due("no 8th came", x.count(1), 7);
        feedText(x, "twin at 99;feud");
        due("the 8th's fault is first", x.text(), -9);
        says("or how many bytes there are if it ends too early.");
        fault("", 0);
        fault("hill;", 5);
        fault("hill at", 7);
        fault("hill step -  ", 13);
        fault("rain", 4);
        fault(" ".repeat(120), 120);
    }

    private static void spotsAndSheets() {
        says("SPOTS 0 to 9 hold a HILL or nothing (at first).");
        HillDance x = with(STONE, 3);
        for (int spot = 0; spot < 10; spot++) {
            due("spot " + spot, x.as(spot, HILL), MISSING);
        }
        within("hold", row(0, 1), 0, 0, 9);
        says("SHEETS 0 to 3: rows of at most 40 numbers of 8, 16 or 32 bits, or MISSING (at first).");
        for (int s = 0; s < 4; s++) {
            due("sheet " + s, x.load(s), MISSING);
            for (int bits : new int[] {8, 16, 32}) {
                due("40 numbers", x.sheet(s, bits, 40), 40);
                due("the last", x.write(s, 39, 1), 1);
                due("41 numbers", x.sheet(s, bits, 41), BEYOND);
                due("40 still", x.write(s, 39, 2), 1);
            }
        }
        within("sheet", row(0, 8, 3), 0, 0, 3);
    }

    private static void looks() {
        says("---- what will be (nothing changes).");
        quiet(Edges::usual, "ahead", 0, 5, 100);
        quiet(Edges::usual, "when", 2, 9);
        quiet(Edges::usual, "when", 2, 8);
        quiet(Edges::usual, "meet", 0, 1);
        quiet(Edges::usual, "meet", 1, 2);
        quiet(Edges::usual, "round");
        quiet(Edges::usual, "skylines", 3, 200);
        quiet(Edges::usual, "wallflowers", 200);
    }

    public static void main(String[] args) throws IOException {
        promise = 0;
        calls();
        findings();
        order();
        refusals();
        leastNumber();
        ring();
        hills();
        facing();
        moving();
        turning();
        sinking();
        ages();
        roads();
        draws();
        tokens();
        items();
        itemsGoOn();
        faults();
        spotsAndSheets();
        looks();
        nothingIsLeftOver(0, 0);
        end();
    }
}
