/** The edges of the document's Terms III and of promises 14 to 20, 24, 27 and 36. */
public final class EdgeTrialsTest {
    private static final int[] FAR = {Kit.LOW, Kit.LOW + 1, -121, Kit.HIGH - 1, Kit.HIGH};

    private static void trialRoom() {
        Kit.sentence("A TRIAL, 120 at most");
        ScratchLadder x = Kit.stones(2);
        Kit.fill(x, 119);
        Kit.due("119", x.count(2), 119);
        Kit.due("the last one", x.trial(1, 0, 2, 3, 3, 100), 0);
        Kit.due("120", x.count(2), 120);
        Kit.due("its corner", x.of(119, 0), 1);
        Kit.due("its load", x.of(119, 7), 100);
        Kit.due("no room", x.trial(1, 0, 2, 3, 3, 100), -5);
        Kit.due("status", x.status(), -5);
        Kit.due("120", x.count(2), 120);
        Kit.due("no use is gone", x.count(3), 399);
        Kit.due("no room in a row either", Kit.row(x, 0, 1, 0, 0, 0, 2, 0), 0);
        Kit.due("status", x.status(), 0);
        Kit.due("the tape is empty", x.count(4), 0);
        ScratchLadder y = Kit.stones(2);
        y.hand(0, 0, 100);
        for (int i = 0; i < 120; i++) {
            Kit.due("trial " + i, y.trial(0, 1, 0, 0, 0, 1), 2);
        }
        y.found(0);
        Kit.due("one that fell out is one still", y.count(2), 120);
        Kit.due("there is no room", y.trial(0, 1, 0, 0, 0, 1), -5);
    }

    private static void loads() {
        Kit.sentence("under a LOAD 1 .. 100 (its USES one less; none left: -3)");
        ScratchLadder x = Kit.stones(2);
        Kit.rule(x, "cuts;deep load");
        Kit.due("0", x.trial(0, 1, 0, 0, 0, 0), -1);
        Kit.due("101", x.trial(0, 1, 0, 0, 0, 101), -1);
        Kit.due("-1", x.trial(0, 1, 0, 0, 0, -1), -1);
        for (int far : FAR) {
            Kit.due("far off", x.trial(0, 1, 0, 0, 0, far), -1);
        }
        Kit.due("none was made", x.count(2), 0);
        Kit.due("1", x.trial(0, 1, 0, 0, 0, 1), 1);
        Kit.due("100", x.trial(0, 1, 0, 0, 0, 100), 1);
        Kit.due("depth under 1", x.of(0, 6), 1);
        Kit.due("depth under 100", x.of(1, 6), 100);
        Kit.due("two uses are gone", x.count(3), 398);
    }

    private static void trialRefused() {
        Kit.sentence("A TRIAL is made: what it left. -1; -2; -3 no USES are left, it is the same STONE; -5.");
        ScratchLadder x = Kit.stones(2);
        x.hand(0, 0, 46);
        int[][] bad = {{-1, 0, 0}, {3, 0, 0}, {0, -1, 0}, {0, 4, 0}, {0, 0, -1}, {0, 0, 4}};
        for (int[] b : bad) {
            Kit.due("can't be", x.trial(0, 1, b[0], b[1], b[2], 1), -1);
            Kit.due("status", x.status(), -1);
        }
        for (int far : FAR) {
            Kit.due("a face far off", x.trial(0, 1, far, 0, 0, 1), -1);
            Kit.due("a way far off", x.trial(0, 1, 0, far, 0, 1), -1);
            Kit.due("a hand far off", x.trial(0, 1, 0, 0, far, 1), -1);
            Kit.due("a corner far off", x.trial(far, 1, 0, 0, 0, 1), -2);
            Kit.due("a stone far off", x.trial(0, far, 0, 0, 0, 1), -2);
        }
        Kit.due("a corner not there", x.trial(2, 1, 0, 0, 0, 1), -2);
        Kit.due("a stone not there", x.trial(0, 2, 0, 0, 0, 1), -2);
        Kit.due("status", x.status(), -2);
        Kit.due("the same", x.trial(1, 1, 0, 0, 0, 1), -3);
        Kit.due("status", x.status(), -3);
        Kit.due("none was made", x.count(2), 0);
        Kit.due("no use is gone", x.count(3), 400);
        Kit.due("nothing was drawn: 45 is the first", x.trial(1, 0, 0, 0, 0, 1), 2);
        Kit.due("status", x.status(), 0);
        Kit.due("the corner's use is gone", x.count(3), 399);
    }

    /** 45 is the first DRAW (12,345), 41 the second (628,841), 89 the third (621,889). */
    private static void slips() {
        Kit.sentence("with SLIP above 0 a DRAW of 100, below SLIP it is turned round.");
        int[][] slipAndLeft = {{0, 1}, {1, 1}, {44, 1}, {45, 1}, {46, 0}, {100, 0}};
        for (int[] s : slipAndLeft) {
            ScratchLadder x = Kit.stones(2);
            Kit.rule(x, "cuts");
            x.hand(0, s[0], 0);
            Kit.due("it cuts, slip " + s[0], x.trial(0, 1, 0, 0, 0, 1), s[1]);
            ScratchLadder y = Kit.stones(2);
            y.hand(0, s[0], 0);
            Kit.due("it does not, slip " + s[0], y.trial(0, 1, 0, 0, 0, 1), 1 - s[1]);
            // Without SLIP nothing is drawn, so the first DRAW, of 45, is still to come.
            y.hand(0, 0, 42);
            Kit.due("the next draw", y.trial(0, 1, 0, 0, 0, 1), s[0] == 0 ? 0 : 2);
        }
        Kit.sentence("with DUST above 0 a DRAW of 100, below DUST it leaves 2 POWDER, else 0 NOTHING.");
        int[][] dustAndLeft = {{0, 0}, {1, 0}, {44, 0}, {45, 0}, {46, 2}, {100, 2}};
        for (int[] d : dustAndLeft) {
            ScratchLadder x = Kit.stones(2);
            x.hand(0, 0, d[0]);
            Kit.due("dust " + d[0], x.trial(0, 1, 0, 0, 0, 1), d[1]);
            x.hand(0, 0, 42);
            Kit.due("the next draw", x.trial(0, 1, 0, 0, 0, 1), d[0] == 0 ? 0 : 2);
            ScratchLadder y = Kit.stones(2);
            Kit.rule(y, "cuts if hand=0;deep 9");
            y.hand(0, 0, d[0]);
            Kit.due("one that cuts draws no dust", y.trial(0, 1, 0, 0, 0, 1), 1);
            y.hand(1, 0, 46);
            Kit.due("so 45 is still to come", y.trial(0, 1, 0, 0, 1, 1), 2);
            Kit.due("powder has no depth", y.of(1, 6), 0);
        }
        ScratchLadder z = Kit.stones(2);
        z.hand(0, 45, 42);
        Kit.due("45 is no slip, 41 is dust", z.trial(0, 1, 0, 0, 0, 1), 2);
        z.seed(0);
        z.hand(0, 45, 41);
        Kit.due("45 is no slip, 41 is no dust", z.trial(0, 1, 0, 0, 0, 1), 0);
        z.seed(0);
        z.hand(0, 46, 100);
        Kit.due("45 is a slip", z.trial(0, 1, 0, 0, 0, 1), 1);
        z.hand(0, 0, 42);
        Kit.due("41 comes next", z.trial(0, 1, 0, 0, 0, 1), 2);
        z.hand(0, 0, 89);
        Kit.due("89 comes next", z.trial(0, 1, 0, 0, 0, 1), 0);
        Kit.rule(z, "cuts");
        z.seed(0);
        z.hand(0, 46, 42);
        Kit.due("a slip that turns a cut, then dust", z.trial(0, 1, 0, 0, 0, 1), 2);
    }

    private static void bothAndDepth() {
        Kit.sentence("If it does: 3 BOTH, if a \"both\" HOLDS, else 1 a GROOVE; its DEPTH (0 else).");
        ScratchLadder x = Kit.stones(2);
        Kit.rule(x, "cuts if way>0;both if way>1;deep 7+way");
        int[] left = {0, 1, 3, 3};
        for (int way = 0; way < 4; way++) {
            Kit.due("way " + way, x.trial(0, 1, 0, way, 0, 1), left[way]);
            Kit.due("what it left", x.of(way, 5), left[way]);
            Kit.due("its depth", x.of(way, 6), way == 0 ? 0 : 7 + way);
        }
        x.hand(0, 100, 100);
        Kit.due("turned to nothing: powder", x.trial(0, 1, 0, 2, 0, 1), 2);
        Kit.due("no depth", x.of(4, 6), 0);
        Kit.due("turned to a groove", x.trial(0, 1, 0, 0, 0, 1), 1);
        Kit.due("its depth", x.of(5, 6), 7);
        Kit.rule(x, "both;deep 9");
        Kit.due("turned to both", x.trial(0, 1, 0, 0, 0, 1), 3);
        Kit.due("its depth", x.of(6, 6), 9);
    }

    private static void powderFound() {
        Kit.sentence("POWDER that is FOUND makes its TRIAL fall out of all.");
        ScratchLadder x = Kit.stones(2);
        Kit.row(x, 1, 0, 0, 0, 2, 2, 50);
        x.best();
        Kit.due("1 is first", x.place(0), 1);
        Kit.above(x, 0, 1);
        Kit.due("found", x.found(0), 0);
        Kit.due("it stays a trial", x.count(2), 2);
        Kit.due("fell out", x.of(0, 8), 1);
        Kit.due("left what it left", x.of(0, 5), 2);
        Kit.due("view", x.view(7, 15, 15), 1);
        Kit.due("says", x.says(1, 0), 0);
        Kit.due("over", x.over(1, 0), 0);
        Kit.due("ring", x.ring(0), 0);
        Kit.due("orders", x.orders(), 1);
        Kit.due("slips", x.slips(2, 0), 0);
        Kit.due("best", x.best(), 0);
        Kit.due("0 is first", x.place(0), 0);
        Kit.due("drop", x.drop(0), -1);
        Kit.due("lose: the other alone", x.lose(), 1);
        ScratchLadder y = Kit.stones(2);
        Kit.row(y, 1, 0, 0, 0, 0, 2, 0);
        Kit.due("tried", y.untried(), 0);
        y.found(0);
        Kit.due("untried", y.untried(), 1);
        Kit.due("orders", y.orders(), 2);
        Kit.sentence("POWDER is FOUND: 0. -2; -3 it left none, or fell out.");
        ScratchLadder z = Kit.stones(2);
        Kit.due("no trials", z.found(0), -2);
        Kit.row(z, 0, 1, 0, 0, 0, 0, 0, 0, 1, 0, 0, 0, 1, 0, 0, 1, 0, 0, 0, 2, 0, 0, 1, 0, 0, 0, 3, 0);
        Kit.due("nothing", z.found(0), -3);
        Kit.due("status", z.status(), -3);
        Kit.due("a groove", z.found(1), -3);
        Kit.due("both", z.found(3), -3);
        Kit.due("one beyond", z.found(4), -2);
        Kit.due("status", z.status(), -2);
        Kit.due("below", z.found(-1), -2);
        for (int far : FAR) {
            Kit.due("far off", z.found(far), -2);
        }
        Kit.due("none fell out", z.view(7, 15, 15), 4);
        z.view(1, 1, 2);
        Kit.due("powder out of view too", z.found(2), 0);
        Kit.due("status", z.status(), 0);
        Kit.due("again", z.found(2), -3);
        Kit.due("status", z.status(), -3);
        Kit.due("three are left", z.view(7, 15, 15), 3);
    }

    private static void rowNumbers() {
        Kit.sentence("one of which a number can't be, a STONE not there or both the same is none (it is passed by: split)");
        int[] most = {2, 2, 2, 3, 3, 3, 255};
        for (int what = 0; what < 7; what++) {
            ScratchLadder x = Kit.stones(3);
            int[] told = {0, 1, 0, 0, 0, 1, 0};
            told[what] = most[what];
            Kit.due("the greatest " + what, Kit.row(x, told), 1);
            Kit.due("it is as told", x.of(0, what), most[what]);
            if (what < 6) {
                for (int above : new int[] {most[what] + 1, 12, 127, 128, 255}) {
                    told[what] = above;
                    Kit.due("above the greatest " + what, Kit.row(x, told), 0);
                    Kit.due("status", x.status(), 0);
                }
            }
            Kit.due("one came", x.count(2), 1);
        }
        ScratchLadder y = Kit.stones(2);
        Kit.due("both the same", Kit.row(y, 1, 1, 0, 0, 0, 1, 0), 0);
        Kit.due("the next ones come", Kit.row(y, 9, 9, 9, 9, 9, 9, 9, 0, 1, 0, 0, 0, 1, 5,
                0, 0, 0, 0, 0, 1, 0, 1, 0, 0, 0, 0, 2, 6), 2);
        Kit.due("the first of them", y.of(0, 6), 5);
        Kit.due("the second", y.of(1, 6), 6);
        ScratchLadder z = new ScratchLadder();
        Kit.due("no stones", Kit.row(z, 0, 1, 0, 0, 0, 1, 0), 0);
        Kit.due("the tape is empty", z.count(4), 0);
        ScratchLadder v = Kit.stones(12);
        Kit.due("the last stones", Kit.row(v, 11, 10, 0, 0, 0, 1, 0, 12, 10, 0, 0, 0, 1, 0), 1);
        Kit.sentence("What they left is as told.");
        for (int left = 0; left < 4; left++) {
            ScratchLadder w = Kit.stones(2);
            w.hand(0, 100, 100);
            Kit.rule(w, "cuts;both;deep 9");
            Kit.row(w, 0, 1, 0, 0, 0, left, 33);
            Kit.due("left", w.of(0, 5), left);
            Kit.due("depth", w.of(0, 6), 33);
            Kit.due("load", w.of(0, 7), 1);
            Kit.due("not fallen out", w.of(0, 8), 0);
        }
    }

    private static void rowEnds() {
        Kit.sentence("if the TAPE ends within one, that one is none; those for which there is no room neither.");
        int[] two = {0, 1, 0, 0, 0, 1, 0, 1, 0, 0, 0, 0, 1, 0};
        for (int bytes = 1; bytes <= 14; bytes++) {
            ScratchLadder x = Kit.stones(2);
            Kit.due(bytes + " bytes", Kit.row(x, java.util.Arrays.copyOf(two, bytes)), bytes / 7);
            Kit.due("status", x.status(), 0);
            Kit.due("trials", x.count(2), bytes / 7);
            Kit.due("the tape is empty", x.count(4), 0);
        }
        ScratchLadder y = Kit.stones(2);
        int[] all = new int[400];
        for (int i = 0; i < 57; i++) {
            all[7 * i + 1] = 1;
        }
        Kit.due("400 bytes", Kit.row(y, all), 57);
        Kit.due("400 bytes", Kit.row(y, all), 57);
        Kit.due("room for six", Kit.row(y, all), 6);
        Kit.due("status", y.status(), 0);
        Kit.due("120", y.count(2), 120);
        Kit.due("room for none", Kit.row(y, all), 0);
        Kit.due("the tape is empty", y.count(4), 0);
        ScratchLadder z = Kit.stones(2);
        Kit.fill(z, 119);
        Kit.due("one that is none takes no room", Kit.row(z, 0, 0, 0, 0, 0, 1, 0,
                1, 0, 0, 0, 0, 1, 0, 0, 1, 0, 0, 0, 1, 0), 1);
        Kit.due("the last", z.of(119, 0), 1);
        Kit.sentence("(load 1; USES stay)");
        ScratchLadder v = new ScratchLadder();
        v.stone(0, 1, 0);
        v.stone(0, 1, 1);
        Kit.due("a corner without uses", Kit.row(v, 0, 1, 0, 0, 0, 1, 0, 1, 0, 0, 0, 0, 1, 0), 2);
        Kit.due("uses stay", v.count(3), 1);
        Kit.due("load", v.of(1, 7), 1);
        Kit.sentence("A ROW of TRIALS, the TAPE is empty then: how many came. -6 the TAPE is empty.");
        ScratchLadder w = Kit.stones(2);
        Kit.due("empty", w.row(), -6);
        Kit.due("status", w.status(), -6);
        w.feed(0, 0, 0, 0, 0);
        w.end(0);
        Kit.due("emptied", w.row(), -6);
        w.feed(0, 0, 0, 0, 0);
        Kit.due("none came", w.row(), 0);
        Kit.due("status", w.status(), 0);
        Kit.due("empty again", w.row(), -6);
        Kit.write(w, "cuts");
        Kit.due("a text took it", w.row(), -6);
    }

    private static void ofTrials() {
        Kit.sentence("8 1 if it fell out, else 0. NONE.");
        ScratchLadder x = Kit.stones(2);
        for (int what = 0; what < 9; what++) {
            Kit.due("no trials", x.of(0, what), -1);
        }
        Kit.fill(x, 120);
        Kit.due("the last", x.of(119, 1), 1);
        Kit.due("one beyond", x.of(120, 1), -1);
        Kit.due("below", x.of(-1, 1), -1);
        Kit.due("what below", x.of(0, -1), -1);
        Kit.due("what beyond", x.of(0, 9), -1);
        for (int far : FAR) {
            Kit.due("far off", x.of(far, 0), -1);
            Kit.due("far off", x.of(0, far), -1);
        }
        Kit.due("status", x.status(), 0);
    }

    private static void views() {
        Kit.sentence("VIEW: bits of FACES, WAYS, HANDS (all at first).");
        ScratchLadder x = Kit.stones(2);
        for (int spot = 0; spot < 48; spot++) {
            Kit.row(x, 0, 1, spot / 16, spot / 4 % 4, spot % 4, 1, 0);
        }
        Kit.due("all at first", x.says(0, 1), 48);
        for (int face = 0; face < 3; face++) {
            Kit.due("a face", x.view(1 << face, 15, 15), 16);
        }
        for (int i = 0; i < 4; i++) {
            Kit.due("a way", x.view(7, 1 << i, 15), 12);
            Kit.due("a hand", x.view(7, 15, 1 << i), 12);
            Kit.due("all but a way", x.view(7, 15 - (1 << i), 15), 36);
        }
        Kit.due("one of each", x.view(4, 8, 8), 1);
        Kit.due("it is said", x.says(0, 1), 1);
        Kit.sentence("VIEW: how many TRIALS COUNT then. -1 (FACES 1 .. 7, WAYS, HANDS 1 .. 15).");
        int[][] bad = {{0, 15, 15}, {8, 15, 15}, {7, 0, 15}, {7, 16, 15}, {7, 15, 0}, {7, 15, 16},
            {-1, 15, 15}, {7, -1, 15}, {7, 15, -1}};
        for (int[] b : bad) {
            Kit.due("can't be", x.view(b[0], b[1], b[2]), -1);
            Kit.due("status", x.status(), -1);
        }
        for (int far : FAR) {
            Kit.due("far off", x.view(far, 15, 15), -1);
            Kit.due("far off", x.view(7, far, 15), -1);
            Kit.due("far off", x.view(7, 15, far), -1);
        }
        Kit.due("it stays", x.says(0, 1), 1);
        Kit.due("the least", x.view(1, 1, 1), 1);
        Kit.due("the greatest", x.view(7, 15, 15), 48);
        Kit.due("status", x.status(), 0);
        ScratchLadder y = Kit.stones(2);
        Kit.due("no trials", y.view(7, 15, 15), 0);
        Kit.row(y, 0, 1, 0, 0, 0, 0, 0, 0, 1, 0, 0, 0, 1, 0, 0, 1, 0, 0, 0, 2, 0, 0, 1, 0, 0, 0, 3, 0);
        Kit.due("whatever they left", y.view(7, 15, 15), 4);
        Kit.due("they say", y.says(0, 1), 2);
        y.view(2, 15, 15);
        Kit.row(y, 0, 1, 0, 0, 0, 1, 0, 0, 1, 1, 0, 0, 1, 0);
        Kit.due("later ones too", y.says(0, 1), 1);
        Kit.sentence("A TRIAL COUNTS, if it did not fall out and its three are in VIEW.");
        ScratchLadder z = Kit.stones(2);
        Kit.row(z, 0, 1, 1, 2, 3, 2, 0);
        int[][] without = {{5, 15, 15}, {7, 11, 15}, {7, 15, 7}};
        for (int[] w : without) {
            Kit.due("two of the three are not enough", z.view(w[0], w[1], w[2]), 0);
            Kit.due("nothing is said", z.says(0, 1), 0);
        }
        Kit.due("all three", z.view(2, 4, 8), 1);
        Kit.due("it is said", z.says(0, 1), 1);
        z.found(0);
        Kit.due("it fell out", z.view(2, 4, 8), 0);
        Kit.sentence("A GROOVE, a POWDER that COUNTS SAYS that the corner's STONE is above the other one.");
        for (int left = 0; left < 4; left++) {
            ScratchLadder v = Kit.stones(2);
            Kit.row(v, 1, 0, 0, 0, 0, left, 0);
            Kit.due("what was left: " + left, v.says(1, 0), left == 1 || left == 2 ? 1 : 0);
            Kit.due("not the other", v.says(0, 1), 0);
        }
    }

    private static void says() {
        Kit.sentence("How many TRIALS SAY that one STONE is above another one. NONE.");
        ScratchLadder x = Kit.stones(12);
        for (int i = 0; i < 12; i++) {
            Kit.due("itself", x.says(i, i), -1);
        }
        Kit.above(x, 11, 0, 11, 0);
        Kit.due("twice", x.says(11, 0), 2);
        Kit.due("never", x.says(0, 11), 0);
        Kit.due("one beyond", x.says(12, 0), -1);
        Kit.due("one beyond", x.says(0, 12), -1);
        Kit.due("below", x.says(-1, 0), -1);
        Kit.due("below", x.says(0, -1), -1);
        for (int far : FAR) {
            Kit.due("far off", x.says(far, 0), -1);
            Kit.due("far off", x.says(0, far), -1);
            Kit.due("far off, the same", x.says(far, far), -1);
        }
        ScratchLadder y = Kit.stones(2);
        for (int i = 0; i < 2; i++) {
            int[] many = new int[350];
            for (int j = 0; j < 50; j++) {
                many[7 * j] = 1;
                many[7 * j + 5] = 1 + j % 2;
            }
            Kit.row(y, many);
        }
        Kit.due("a hundred", y.says(1, 0), 100);
    }

    private static void untried() {
        Kit.sentence("How many pairs of STONES no TRIAL that COUNTS was made of (either way, whatever it left).");
        ScratchLadder x = new ScratchLadder();
        int[] pairs = {0, 0, 1, 3, 6, 10, 15, 21, 28, 36, 45, 55, 66};
        for (int many = 0; many <= 12; many++) {
            Kit.due(many + " stones", x.untried(), pairs[many]);
            x.stone(0, 1, 1);
        }
        for (int left = 0; left < 4; left++) {
            Kit.row(x, left, 11, 0, 0, 0, left, 0);
            Kit.due("left " + left, x.untried(), 65 - left);
            Kit.row(x, 11, left, 0, 0, 0, 0, 0);
            Kit.due("the other way too", x.untried(), 65 - left);
        }
        x.found(4);
        Kit.due("the other way still", x.untried(), 62);
        x.view(2, 15, 15);
        Kit.due("none in view", x.untried(), 66);
    }

    private static void handSlips() {
        Kit.sentence("How many TRIALS of a HAND that COUNT SAY something (what 0), are AGAINST the latest BEST (1). NONE.");
        ScratchLadder x = Kit.stones(2);
        Kit.row(x, 0, 1, 0, 0, 3, 0, 0, 1, 0, 0, 0, 3, 1, 0, 1, 0, 0, 0, 3, 2, 0, 1, 0, 1, 0, 3, 3, 0);
        Kit.due("no best yet", x.slips(3, 1), 0);
        Kit.due("two say something", x.slips(3, 0), 2);
        Kit.due("the least hand", x.slips(0, 0), 0);
        x.view(2, 15, 15);
        x.best();
        x.view(7, 15, 15);
        Kit.due("both are against 0 1", x.slips(3, 1), 2);
        x.view(7, 15, 7);
        Kit.due("out of view", x.slips(3, 0), 0);
        Kit.due("out of view", x.slips(3, 1), 0);
        for (int what = 0; what < 2; what++) {
            Kit.due("hand -1", x.slips(-1, what), -1);
            Kit.due("hand 4", x.slips(4, what), -1);
            for (int far : FAR) {
                Kit.due("far off", x.slips(far, what), -1);
                Kit.due("far off", x.slips(0, far), -1);
            }
        }
        Kit.due("what -1", x.slips(0, -1), -1);
        Kit.due("what 2", x.slips(0, 2), -1);
    }

    public static void main(String[] args) {
        trialRoom();
        loads();
        trialRefused();
        slips();
        bothAndDepth();
        powderFound();
        rowNumbers();
        rowEnds();
        ofTrials();
        views();
        says();
        untried();
        handSlips();
        Kit.end();
    }
}
