/** The edges of the document's Terms IV and of promises 20 to 35 and 37 to 39. */
public final class EdgeOrdersTest {
    private static final int[] FAR = {Kit.LOW, Kit.LOW + 1, -4096, Kit.HIGH - 1, Kit.HIGH};

    private static void chain(ScratchLadder x, int... stones) {
        for (int i = 0; i + 1 < stones.length; i++) {
            Kit.above(x, stones[i], stones[i + 1]);
        }
    }

    private static void over() {
        Kit.sentence("a is OVER b, if there is a row of STONES from a to b, of each of which a TRIAL SAYS that it is above the next.");
        ScratchLadder x = Kit.stones(12);
        chain(x, 11, 3, 5, 7, 0, 1, 2, 4, 6, 8, 9, 10);
        Kit.due("the longest row", x.over(11, 10), 1);
        Kit.due("not back", x.over(10, 11), 0);
        Kit.due("two of it", x.over(6, 8), 1);
        Kit.sentence("Whether a is OVER b (b may be a): 1, 0. NONE.");
        for (int i = 0; i < 12; i++) {
            Kit.due("not itself", x.over(i, i), 0);
        }
        Kit.above(x, 10, 11);
        for (int i = 0; i < 12; i++) {
            Kit.due("itself, in a ring", x.over(i, i), 1);
        }
        Kit.due("one beyond", x.over(12, 0), -1);
        Kit.due("one beyond", x.over(0, 12), -1);
        Kit.due("below", x.over(-1, 0), -1);
        Kit.due("below", x.over(0, -1), -1);
        for (int far : FAR) {
            Kit.due("far off", x.over(far, 0), -1);
            Kit.due("far off", x.over(0, far), -1);
        }
        ScratchLadder y = Kit.stones(3);
        Kit.row(y, 0, 1, 0, 0, 0, 0, 0, 1, 2, 0, 0, 0, 3, 0);
        Kit.due("nothing says nothing", y.over(0, 1), 0);
        Kit.due("both says nothing", y.over(1, 2), 0);
    }

    private static void rings() {
        Kit.sentence("RING of a STONE: the fewest STONES of a row from it to itself (0 without).");
        ScratchLadder x = Kit.stones(12);
        chain(x, 0, 1, 2, 3, 4, 5, 6, 7, 8, 9, 10, 11);
        Kit.due("a row is no ring", x.ring(0), 0);
        Kit.above(x, 11, 0);
        for (int i = 0; i < 12; i++) {
            Kit.due("of all twelve", x.ring(i), 12);
        }
        Kit.above(x, 11, 10);
        Kit.due("the fewest are two", x.ring(10), 2);
        Kit.due("the fewest are two", x.ring(11), 2);
        Kit.due("still twelve", x.ring(9), 12);
        Kit.above(x, 9, 11);
        Kit.due("one is left out", x.ring(9), 11);
        Kit.due("still two", x.ring(10), 2);
        Kit.sentence("`int ring(int stone)`: RING of a STONE; NONE.");
        Kit.due("one beyond", x.ring(12), -1);
        Kit.due("below", x.ring(-1), -1);
        for (int far : FAR) {
            Kit.due("far off", x.ring(far), -1);
        }
        ScratchLadder y = Kit.stones(3);
        chain(y, 0, 1, 0);
        Kit.due("beside a ring", y.ring(2), 0);
        Kit.above(y, 2, 0);
        Kit.due("above a ring", y.ring(2), 0);
        Kit.due("not there", y.ring(3), -1);
    }

    private static void orders() {
        Kit.sentence("How many ORDERS FIT.");
        ScratchLadder x = new ScratchLadder();
        int factorial = 1;
        for (int many = 0; many <= 12; many++) {
            factorial *= Math.max(1, many);
            Kit.due(many + " stones", x.orders(), factorial);
            x.stone(0, 1, 1);
        }
        Kit.due("12 factorial", x.orders(), 479001600);
        chain(x, 11, 10, 9, 8, 7, 6, 5, 4, 3, 2, 1);
        Kit.due("one may stand anywhere", x.orders(), 12);
        Kit.above(x, 1, 0);
        Kit.due("one alone", x.orders(), 1);
        Kit.above(x, 1, 0);
        Kit.due("said twice", x.orders(), 1);
        Kit.above(x, 0, 11);
        Kit.due("a ring", x.orders(), 0);
        Kit.sentence("In how many ORDERS that FIT a stands ahead of another one. NONE.");
        Kit.due("a ring", x.ahead(0, 11), 0);
        Kit.due("itself", x.ahead(5, 5), -1);
        Kit.due("one beyond", x.ahead(12, 0), -1);
        Kit.due("one beyond", x.ahead(0, 12), -1);
        Kit.due("below", x.ahead(-1, 0), -1);
        Kit.due("below", x.ahead(0, -1), -1);
        for (int far : FAR) {
            Kit.due("far off", x.ahead(far, 0), -1);
            Kit.due("far off", x.ahead(0, far), -1);
            Kit.due("far off, the same", x.ahead(far, far), -1);
        }
        ScratchLadder y = Kit.stones(12);
        Kit.due("half of all", y.ahead(0, 11), 239500800);
        Kit.due("half of all", y.ahead(11, 0), 239500800);
        Kit.above(y, 3, 4);
        Kit.due("all", y.ahead(3, 4), 239500800);
        Kit.due("none", y.ahead(4, 3), 0);
        Kit.due("asking leaves no trace", y.orders(), 239500800);
        Kit.due("nor there", y.over(4, 3), 0);
    }

    private static void best() {
        Kit.sentence("BEST: the ORDER with the fewest AGAINST it, of alike ones the first as rows.");
        ScratchLadder x = Kit.stones(3);
        Kit.due("none", x.best(), 0);
        Kit.dueRow("the first of all", Kit.places(x, 4), 0, 1, 2, -1);
        chain(x, 2, 1, 0, 2);
        Kit.due("one of a ring", x.best(), 1);
        Kit.dueRow("0 2 1, 1 0 2, 2 1 0", Kit.places(x, 3), 0, 2, 1);
        Kit.above(x, 2, 1, 1, 0);
        Kit.due("the single one", x.best(), 1);
        Kit.dueRow("2 1 0 alone", Kit.places(x, 3), 2, 1, 0);
        ScratchLadder y = Kit.stones(12);
        for (int i = 0; i < 10; i++) {
            Kit.above(y, 0, 11, 11, 0);
        }
        Kit.due("ten either way", y.best(), 10);
        Kit.due("the first as rows", y.place(0), 0);
        Kit.due("the last", y.place(11), 11);
        Kit.above(y, 11, 0);
        Kit.due("eleven against ten", y.best(), 10);
        Kit.dueRow("11 just ahead of 0", Kit.places(y, 3), 1, 2, 3);
        Kit.dueRow("it stands as late as it can", new int[] {y.place(9), y.place(10), y.place(11)},
                10, 11, 0);
        Kit.sentence("BEST, kept as the latest: how many are AGAINST it.");
        ScratchLadder z = Kit.stones(2);
        z.image(0);
        Kit.above(z, 1, 0);
        Kit.due("kept", z.best(), 0);
        z.back(0);
        Kit.dueRow("till the next", Kit.places(z, 3), 1, 0, -1);
        z.stone(0, 1, 1);
        Kit.dueRow("till the next", Kit.places(z, 3), 1, 0, -1);
        Kit.due("the next", z.best(), 0);
        Kit.dueRow("anew", Kit.places(z, 4), 0, 1, 2, -1);
        ScratchLadder v = new ScratchLadder();
        v.image(0);
        v.stone(0, 1, 1);
        v.best();
        v.back(0);
        Kit.due("one that is gone", v.place(0), 0);
        Kit.due("without stones", v.best(), 0);
        Kit.due("the empty row", v.place(0), -1);
        ScratchLadder w = Kit.stones(2);
        int[] fifty = new int[350];
        for (int i = 0; i < 50; i++) {
            fifty[7 * i] = i % 2;
            fifty[7 * i + 1] = 1 - i % 2;
            fifty[7 * i + 5] = 1 + i / 2 % 2;
        }
        Kit.row(w, fifty);
        Kit.row(w, fifty);
        Kit.due("fifty either way", w.best(), 50);
        Kit.sentence("The STONE at a place in the latest BEST; NONE.");
        Kit.due("below", y.place(-1), -1);
        Kit.due("one beyond", y.place(12), -1);
        for (int far : FAR) {
            Kit.due("far off", y.place(far), -1);
        }
        Kit.due("ahead of any", new ScratchLadder().place(0), -1);
        Kit.due("ahead of any", Kit.stones(1).place(0), -1);
    }

    private static void drops() {
        Kit.sentence("The i-th TRIAL that COUNTS now and is AGAINST the latest BEST (STONES that are not in it: none). NONE.");
        ScratchLadder x = Kit.stones(2);
        Kit.row(x, 1, 0, 0, 0, 0, 1, 0, 0, 1, 0, 0, 0, 1, 0, 1, 0, 1, 0, 0, 2, 0, 1, 0, 0, 0, 0, 0, 0,
                1, 0, 0, 0, 0, 3, 0);
        Kit.due("no best", x.drop(0), -1);
        x.view(4, 15, 15);
        x.best();
        x.view(7, 15, 15);
        Kit.due("the first", x.drop(0), 0);
        Kit.due("the second", x.drop(1), 2);
        Kit.due("no third", x.drop(2), -1);
        Kit.due("below", x.drop(-1), -1);
        for (int far : FAR) {
            Kit.due("far off", x.drop(far), -1);
        }
        x.view(2, 15, 15);
        Kit.due("in view now", x.drop(0), 2);
        Kit.due("no other", x.drop(1), -1);
        x.found(2);
        Kit.due("it fell out", x.drop(0), -1);
        x.view(7, 15, 15);
        x.stone(5, 1, 1);
        Kit.above(x, 2, 0, 2, 1, 0, 2, 1, 2);
        Kit.due("the first still", x.drop(0), 0);
        Kit.due("a stone that is not in it", x.drop(1), -1);
        x.best();
        // 0 1 2 has 1 over 0 and 2 over both against it, as many as any other.
        Kit.due("now it is in it", x.drop(1), 5);
    }

    private static void against() {
        Kit.sentence("A TRIAL is AGAINST it, if it SAYS that a later one is above an earlier one. It FITS, if none is.");
        ScratchLadder x = Kit.stones(3);
        Kit.row(x, 2, 0, 0, 0, 0, 0, 0, 2, 1, 0, 0, 0, 3, 0);
        x.best();
        Kit.due("nothing and both are against none", x.slips(0, 1), 0);
        Kit.due("all six fit", x.orders(), 6);
        Kit.row(x, 0, 2, 0, 0, 0, 1, 0);
        Kit.due("an earlier one above a later one", x.slips(0, 1), 0);
        Kit.due("three fit", x.orders(), 3);
        Kit.row(x, 2, 1, 0, 0, 0, 2, 0);
        Kit.due("the last one above the next", x.slips(0, 1), 1);
        Kit.due("one fits", x.orders(), 1);
        Kit.row(x, 2, 0, 0, 0, 0, 2, 0);
        Kit.due("the last one above the first", x.slips(0, 1), 2);
        Kit.due("none fits", x.orders(), 0);
    }

    private static void spans() {
        Kit.sentence("RUNGS of the LAW: STONES that are there, with numbers.");
        ScratchLadder x = Kit.stones(2);
        Kit.rule(x, "rung 0 is 0;rung 1000 is 11;rung 500 is 2");
        Kit.due("rung 0 is not above 0", x.settle(1), -1);
        Kit.above(x, 1, 0);
        Kit.due("0 of a rung", x.span(1, 0), 0);
        x.stone(2, 1, 1);
        Kit.due("the third is there", x.settle(1), 2);
        for (int i = 3; i < 12; i++) {
            Kit.due("not there yet", x.settle(1), 2);
            x.stone(i, 1, 1);
        }
        Kit.above(x, 11, 1);
        Kit.due("the last is there", x.span(1, 1), 1000);
        Kit.due("1000 is not below 1000", x.settle(1), 2);
        Kit.sentence("SPAN of a STONE: the greatest number of RUNGS that it is OVER (0 without), the least of those that are OVER it (1001 without).");
        ScratchLadder y = Kit.stones(4);
        Kit.rule(y, "rung 300 is 1;rung 200 is 1;rung 400 is 2;rung 350 is 2;rung 1000 is 3;rung 0 is 3");
        Kit.due("0 without", y.span(0, 0), 0);
        Kit.due("1001 without", y.span(0, 1), 1001);
        Kit.above(y, 0, 1);
        Kit.due("the greatest of one stone", y.span(0, 0), 300);
        Kit.above(y, 2, 0);
        Kit.due("the least of one stone", y.span(0, 1), 350);
        Kit.above(y, 3, 2);
        Kit.due("0 is the least", y.span(0, 1), 0);
        Kit.due("its own are not below it", y.span(1, 0), 0);
        Kit.above(y, 1, 3);
        Kit.due("in a ring its own too", y.span(1, 0), 1000);
        Kit.sentence("SPAN of a STONE: the first number (what 0), the second (1). NONE.");
        for (int what = 0; what < 2; what++) {
            Kit.due("one beyond", y.span(4, what), -1);
            Kit.due("below", y.span(-1, what), -1);
            for (int far : FAR) {
                Kit.due("far off", y.span(far, what), -1);
                Kit.due("far off", y.span(0, far), -1);
            }
        }
        Kit.due("what -1", y.span(0, -1), -1);
        Kit.due("what 2", y.span(0, 2), -1);
    }

    private static void settles() {
        Kit.sentence("of RUNGS with a number above the first and below the second, not itself, ordered by numbers, then as told, the one of which as many stand behind as ahead of it, or one more.");
        ScratchLadder x = Kit.stones(12);
        int[] middle = {-1, 0, 0, 1, 1, 2, 2, 3, 3, 4, 4, 5};
        for (int rungs = 1; rungs < 12; rungs++) {
            StringBuilder up = new StringBuilder();
            for (int i = 0; i < rungs; i++) {
                up.append(i == 0 ? "" : ";").append("rung ").append(10 + i).append(" is ").append(i);
            }
            if (rungs < 11) {
                Kit.rule(x, up.toString());
                Kit.due(rungs + " rungs", x.settle(11), middle[rungs]);
            }
        }
        ScratchLadder y = Kit.stones(6);
        Kit.rule(y, "rung 5 is 3;rung 5 is 1;rung 5 is 2;rung 5 is 0;rung 5 is 4");
        Kit.due("alike: as told", y.settle(5), 2);
        Kit.due("not itself", y.settle(2), 1);
        Kit.due("not itself", y.settle(3), 2);
        Kit.above(y, 5, 0);
        Kit.due("5 is not above 5", y.settle(5), -1);
        ScratchLadder z = Kit.stones(4);
        Kit.rule(z, "rung 9 is 0;rung 10 is 1;rung 11 is 2");
        Kit.above(z, 3, 0);
        Kit.due("10 and 11", z.settle(3), 1);
        Kit.above(z, 2, 3);
        Kit.due("10 alone", z.settle(3), 1);
        Kit.above(z, 1, 3);
        Kit.due("none between 9 and 10", z.settle(3), -1);
        ScratchLadder v = Kit.stones(3);
        Kit.rule(v, "rung 5 is 1;rung 6 is 1;rung 7 is 1;rung 8 is 2");
        Kit.due("one stone more than once", v.settle(0), 1);
        Kit.due("not itself, however often", v.settle(1), 2);
        Kit.sentence("SETTLE: the RUNG's STONE; NONE.");
        Kit.due("one beyond", v.settle(3), -1);
        Kit.due("below", v.settle(-1), -1);
        for (int far : FAR) {
            Kit.due("far off", v.settle(far), -1);
        }
        Kit.rule(v, "cuts");
        Kit.due("no rungs", v.settle(0), -1);
        Kit.rule(v, "rung 5 is 0");
        Kit.due("itself alone", v.settle(0), -1);
    }

    private static void fewest() {
        Kit.sentence("FEWEST for 2 .. 5 told STONES");
        ScratchLadder x = Kit.stones(12);
        int[] trials = {-1, -1, 1, 3, 5, 7, -1, -1, -1, -1, -1, -1, -1};
        for (int many = 0; many <= 12; many++) {
            int low = (1 << many) - 1;
            int high = low << 12 - many;
            Kit.due(many + " of them", x.fewest(low, 0), trials[many]);
            Kit.due(many + " of the last", x.fewest(high, 0), trials[many]);
            int last = 12 - many;
            Kit.due("the first trial", x.fewest(high, 1), trials[many] < 0 ? -1 : 13 * last + 1);
        }
        Kit.sentence("FEWEST for STONES as bits: how many trials (what 0), the first with which it can be so, as 12 times one and another one with a higher number, the lowest such (1; NONE if none is needed). NONE (one is OVER itself, too).");
        Kit.due("one not there", x.fewest(4096 + 1, 0), -1);
        Kit.due("below 0", x.fewest(-1, 0), -1);
        Kit.due("the sign and one", x.fewest(Kit.LOW + 1, 0), -1);
        for (int far : FAR) {
            Kit.due("far off", x.fewest(far, 0), -1);
            Kit.due("far off", x.fewest(3, far), -1);
        }
        Kit.due("what -1", x.fewest(3, -1), -1);
        Kit.due("what 2", x.fewest(3, 2), -1);
        ScratchLadder y = Kit.stones(5);
        Kit.due("a sixth is not there", y.fewest(33, 0), -1);
        chain(y, 4, 3, 2, 1);
        // 0 has five places beside four: three trials, whichever comes first.
        Kit.due("one into four", y.fewest(31, 0), 3);
        Kit.due("the lowest such", y.fewest(31, 1), 1);
        // It has four places beside three: two trials, the middle one first.
        Kit.due("one into three", y.fewest(15, 0), 2);
        Kit.due("the middle one first", y.fewest(15, 1), 2);
        Kit.due("four in one row", y.fewest(30, 0), 0);
        Kit.due("none is needed", y.fewest(30, 1), -1);
        Kit.above(y, 1, 0);
        Kit.due("five in one row", y.fewest(31, 0), 0);
        Kit.due("none is needed", y.fewest(31, 1), -1);
        Kit.above(y, 0, 4);
        Kit.due("each is over itself", y.fewest(3, 0), -1);
        Kit.due("each is over itself", y.fewest(3, 1), -1);
        ScratchLadder v = Kit.stones(5);
        Kit.above(v, 0, 3, 2, 3, 4, 1, 4, 2);
        // Eleven rows are left; 0 and 1 could leave eight of them, but such as want four trials.
        Kit.due("eleven rows", v.fewest(31, 0), 4);
        Kit.due("the first with which it can be so", v.fewest(31, 1), 2);
        Kit.above(v, 0, 1);
        Kit.due("eight rows, but not with three", v.fewest(31, 0), 4);
        ScratchLadder z = Kit.stones(4);
        chain(z, 2, 3, 2);
        Kit.due("a ring beside them", z.fewest(3, 0), 1);
        Kit.due("a ring beside them", z.fewest(3, 1), 1);
        Kit.due("one of it among them", z.fewest(5, 0), -1);
        Kit.above(z, 0, 2, 3, 1);
        Kit.due("over through a ring", z.fewest(3, 0), 0);
    }

    private static void choice() {
        Kit.sentence("CHOICE of k RUNGS (1 .. 12)");
        ScratchLadder x = new ScratchLadder();
        for (int i = 0; i < 12; i++) {
            x.stone(0, 100, 0);
        }
        Kit.due("no best", x.choice(1, 0), -1);
        Kit.due("no best", x.choice(1, 1), -1);
        x.best();
        Kit.due("0", x.choice(0, 0), -1);
        Kit.due("13", x.choice(13, 0), -1);
        Kit.due("-1", x.choice(-1, 0), -1);
        for (int far : FAR) {
            Kit.due("far off", x.choice(far, 0), -1);
            Kit.due("far off", x.choice(1, far), -1);
        }
        Kit.due("what -1", x.choice(1, -1), -1);
        Kit.due("what 2", x.choice(1, 2), -1);
        Kit.due("all of twelve", x.choice(12, 0), 660000);
        Kit.due("all of twelve", x.choice(12, 1), 4095);
        // One in the middle leaves 5 and 6: 10 and 15 pairs are not told apart.
        Kit.due("one", x.choice(1, 0), 410000);
        Kit.due("the earlier one of the middle", x.choice(1, 1), 1 << 5);
        Kit.due("six are enough", x.choice(6, 0), 660000);
        Kit.due("each second one", x.choice(6, 1), 0b010101010101);
        Kit.due("more are no better: the first as rows", x.choice(7, 1), 0b010101010111);
        Kit.sentence("in the latest BEST, two STONES are TOLD APART, if one is a RUNG, or a RUNG stands between them; the greatest sum of PIECES times PIECES over all pairs TOLD APART; of alike ones the first as rows of places.");
        ScratchLadder y = new ScratchLadder();
        for (int i = 0; i < 4; i++) {
            y.stone(0, 1, 0);
        }
        chain(y, 3, 2, 1, 0);
        y.best();
        Kit.due("five of six pairs", y.choice(1, 0), 5);
        Kit.due("the second place, STONE 2", y.choice(1, 1), 4);
        Kit.due("all pairs", y.choice(2, 0), 6);
        Kit.due("places 0 and 2, STONES 3 and 1", y.choice(2, 1), 10);
        ScratchLadder v = new ScratchLadder();
        v.stone(0, 1, 0);
        v.best();
        Kit.due("one stone has no pairs", v.choice(1, 0), 0);
        Kit.due("itself", v.choice(1, 1), 1);
        v.stone(0, 1, 0);
        v.best();
        Kit.due("one pair", v.choice(1, 0), 1);
        Kit.due("the first", v.choice(1, 1), 1);
        Kit.sentence("CHOICE: the sum (what 0), the STONES as bits (1). NONE (not so many in the latest BEST, or more than there are STONES now, too).");
        Kit.due("not so many", v.choice(3, 0), -1);
        v.stone(0, 50, 0);
        Kit.due("not so many in the latest", v.choice(3, 0), -1);
        Kit.due("two of the latest", v.choice(2, 0), 1);
        v.image(0);
        v.stone(0, 50, 0);
        v.best();
        Kit.due("as many as there are", v.choice(4, 0), 1 + 100 + 100 + 2500);
        v.back(0);
        Kit.due("more than there are now", v.choice(1, 0), -1);
        Kit.due("more than there are now", v.choice(4, 1), -1);
        v.stone(0, 9, 0);
        Kit.due("as many again", v.choice(4, 0), 1 + 100 + 18 + 450);
    }

    private static void dents() {
        Kit.sentence("DENTS under a load: the ORDER by DENT on FACE 0, WAY 0 (corner and stone: itself; hand 0), the least first, of alike ones by number.");
        ScratchLadder x = Kit.stones(12);
        for (int i = 0; i < 12; i++) {
            Kit.due("all alike", x.dents(1, i), i);
        }
        Kit.rule(x, "dent 11-corner;dent 255 if face+way+hand>0;dent 255 if not corner=stone");
        for (int i = 0; i < 12; i++) {
            Kit.due("upside down", x.dents(100, i), 11 - i);
        }
        Kit.rule(x, "dent 300-stone;dent 99 if load=100 and stone=7;dent 98 if load=1 and stone=6");
        Kit.due("255 and more are alike", x.dents(2, 0), 0);
        Kit.due("by number", x.dents(2, 11), 11);
        Kit.due("under 100", x.dents(100, 0), 7);
        Kit.due("under 1", x.dents(1, 0), 6);
        Kit.sentence("The i-th STONE by DENTS under a load; NONE.");
        Kit.due("load 0", x.dents(0, 0), -1);
        Kit.due("load 101", x.dents(101, 0), -1);
        Kit.due("load -1", x.dents(-1, 0), -1);
        Kit.due("place -1", x.dents(1, -1), -1);
        Kit.due("place 12", x.dents(1, 12), -1);
        for (int far : FAR) {
            Kit.due("far off", x.dents(far, 0), -1);
            Kit.due("far off", x.dents(1, far), -1);
        }
        Kit.due("not so many", Kit.stones(2).dents(1, 2), -1);
    }

    private static void grooves() {
        Kit.sentence("GROOVES: by DEPTHS of TRIALS on it that COUNT with a GROOVE, times 100 through their LOADS, cut, the least first; those without last; of alike ones by number.");
        ScratchLadder x = Kit.stones(4);
        for (int i = 0; i < 4; i++) {
            Kit.due("all without", x.grooves(i), i);
        }
        // 1 through 3 is 33 when cut, and so is 33 through 100.
        Kit.rule(x, "cuts;deep 33 if load=100;deep 1 if load=3");
        x.trial(0, 2, 0, 0, 0, 3);
        x.trial(0, 3, 0, 0, 0, 100);
        Kit.dueRow("cut", new int[] {x.grooves(0), x.grooves(1), x.grooves(2), x.grooves(3)}, 2, 3, 0, 1);
        ScratchLadder w = Kit.stones(4);
        // 2 through 3 is 66 when cut, and so is 66 through 100.
        Kit.rule(w, "cuts;deep 66 if load=100;deep 2 if load=3");
        w.trial(0, 2, 0, 0, 0, 3);
        w.trial(0, 3, 0, 0, 0, 100);
        Kit.dueRow("cut", new int[] {w.grooves(0), w.grooves(1)}, 2, 3);
        Kit.row(x, 0, 1, 0, 0, 0, 1, 255);
        Kit.dueRow("255 times 100 is ahead of without",
                new int[] {x.grooves(0), x.grooves(1), x.grooves(2), x.grooves(3)}, 2, 3, 1, 0);
        Kit.row(x, 1, 0, 0, 0, 0, 1, 0);
        Kit.dueRow("0 is the least",
                new int[] {x.grooves(0), x.grooves(1), x.grooves(2), x.grooves(3)}, 0, 2, 3, 1);
        ScratchLadder y = Kit.stones(3);
        Kit.row(y, 1, 0, 0, 0, 0, 0, 5, 1, 0, 0, 0, 0, 2, 5, 1, 0, 0, 0, 0, 3, 5, 0, 2, 0, 1, 0, 1, 200);
        Kit.due("nothing, powder and both are no grooves", y.grooves(0), 2);
        Kit.due("the corner has none", y.grooves(1), 0);
        y.view(7, 13, 15);
        Kit.due("out of view", y.grooves(0), 0);
        ScratchLadder z = Kit.stones(3);
        Kit.rule(z, "cuts;deep 255 if load=1;deep 1 if load=100");
        z.trial(0, 1, 0, 0, 0, 1);
        z.trial(0, 1, 0, 0, 0, 100);
        Kit.row(z, 0, 2, 0, 0, 0, 1, 3);
        // 256 times 100 through 101 is 253, not the mean of 25500 and 1; the other has 300.
        Kit.due("all depths through all loads", z.grooves(0), 1);
        Kit.sentence("The i-th STONE by GROOVES; NONE.");
        Kit.due("below", x.grooves(-1), -1);
        Kit.due("one beyond", x.grooves(4), -1);
        for (int far : FAR) {
            Kit.due("far off", x.grooves(far), -1);
        }
        ScratchLadder v = Kit.stones(2);
        int[] deep = new int[350];
        for (int i = 0; i < 50; i++) {
            deep[7 * i + 1] = 1;
            deep[7 * i + 5] = 1;
            deep[7 * i + 6] = 255;
        }
        Kit.row(v, deep);
        Kit.row(v, deep);
        Kit.row(v, 1, 0, 0, 0, 0, 1, 254);
        Kit.due("a hundred of 255", v.grooves(0), 0);
    }

    private static void otherwise() {
        Kit.sentence("OTHERWISE by DENTS under a load (1 .. 100), or by GROOVES (load 0), of STONES that are there now and stand in the latest BEST (0 without one). NONE.");
        ScratchLadder x = Kit.stones(12);
        Kit.rule(x, "dent 11-corner if load>1;dent corner if load=1;dent 5 if load=100");
        Kit.due("without a best", x.otherwise(2), 0);
        Kit.due("without a best", x.otherwise(0), 0);
        x.best();
        Kit.due("all pairs", x.otherwise(2), 66);
        Kit.due("all pairs", x.otherwise(99), 66);
        Kit.due("none", x.otherwise(1), 0);
        Kit.due("alike under 100", x.otherwise(100), 0);
        Kit.due("by grooves", x.otherwise(0), 0);
        Kit.due("-1", x.otherwise(-1), -1);
        Kit.due("101", x.otherwise(101), -1);
        for (int far : FAR) {
            Kit.due("far off", x.otherwise(far), -1);
        }
        Kit.sentence("OTHERWISE: how many pairs stand otherwise than in the latest BEST.");
        ScratchLadder y = Kit.stones(1);
        Kit.rule(y, "dent 9-corner");
        y.image(0);
        Kit.due("without a best", y.otherwise(1), 0);
        y.best();
        Kit.due("one has no pairs", y.otherwise(1), 0);
        y.stone(1, 1, 1);
        Kit.due("a new one is not in it", y.otherwise(1), 0);
        y.best();
        Kit.due("now it is", y.otherwise(1), 1);
        y.back(0);
        Kit.due("it is there no more", y.otherwise(1), 0);
        Kit.due("nor by grooves", y.otherwise(0), 0);
        y.stone(1, 1, 1);
        Kit.due("it is there again", y.otherwise(1), 1);
    }

    private static void shapes() {
        Kit.sentence("STONES (not the corner's) of which it CUTS, under load 1 by hand 0, on some FACE just these WAYS.");
        for (int marks = 0; marks < 16; marks++) {
            ScratchLadder x = Kit.stones(3);
            x.point(0, 1);
            for (int way = 0; way < 4; way++) {
                x.plane(1, 0, way, 1);
                x.plane(1, 1, way, 1);
                x.plane(1, 2, way, 1 - (marks >> way & 1));
                x.plane(0, 2, way, 1 - (marks >> way & 1));
            }
            Kit.rule(x, "cuts if point>plane and load=1 and hand=0");
            for (int asked = 0; asked < 16; asked++) {
                int bits = (asked == marks || asked == 0 ? 2 : 0) | (asked == 15 ? 4 : 0);
                Kit.due(marks + " by " + asked, x.shapes(0, asked), bits);
            }
        }
        for (int face = 0; face < 3; face++) {
            for (int way = 0; way < 4; way++) {
                ScratchLadder z = Kit.stones(2);
                Kit.rule(z, "cuts if face=" + face + " and way=" + way);
                Kit.due("one way of one face", z.shapes(0, 1 << way), 2);
                Kit.due("no other way", z.shapes(0, 15 - (1 << way)), 0);
                Kit.due("the other faces", z.shapes(0, 0), 2);
            }
        }
        Kit.sentence("SHAPES: STONES as bits. NONE.");
        ScratchLadder y = Kit.stones(12);
        Kit.due("all but itself", y.shapes(11, 0), 2047);
        Kit.due("all but itself", y.shapes(0, 0), 4094);
        Kit.due("no other", Kit.stones(1).shapes(0, 0), 0);
        Kit.due("one beyond", y.shapes(12, 0), -1);
        Kit.due("below", y.shapes(-1, 0), -1);
        Kit.due("16", y.shapes(0, 16), -1);
        Kit.due("-1", y.shapes(0, -1), -1);
        for (int far : FAR) {
            Kit.due("far off", y.shapes(far, 0), -1);
            Kit.due("far off", y.shapes(0, far), -1);
        }
    }

    private static void glass() {
        Kit.sentence("the corner of a third one that CUTS the false one on some FACE and WAY (load 1, hand 0): with the fewest FACES and WAYS on which it CUTS the true one, then the lowest.");
        ScratchLadder x = Kit.stones(5);
        Kit.rule(x, "cuts if stone=1 and face=2 and way=3 and load=1 and hand=0 and corner>1"
                + ";cuts if stone=0 and corner=2;cuts if stone=0 and corner>2 and face=0 and way<2");
        Kit.due("one spot is enough", x.glass(0, 1, 0), 3);
        Kit.due("two do harm", x.glass(0, 1, 1), 2);
        Kit.due("no harm", x.glass(2, 1, 0), 3);
        Kit.due("no harm", x.glass(2, 1, 1), 0);
        Kit.due("the lowest", x.glass(3, 1, 0), 2);
        Kit.due("a third one alone", x.glass(2, 0, 0), 3);
        Kit.due("none cuts 4", x.glass(0, 4, 0), -1);
        Kit.due("none cuts 4", x.glass(0, 4, 1), -1);
        Kit.rule(x, "cuts");
        Kit.due("all twelve", x.glass(0, 1, 1), 12);
        Kit.due("the lowest", x.glass(0, 1, 0), 2);
        Kit.due("the lowest", x.glass(4, 3, 0), 0);
        Kit.sentence("GLASS: the corner's STONE (what 0), on how many FACES and WAYS it CUTS the true one (1). NONE (none, the same STONE, too).");
        for (int what = 0; what < 2; what++) {
            Kit.due("the same", x.glass(2, 2, what), -1);
            Kit.due("one beyond", x.glass(5, 0, what), -1);
            Kit.due("one beyond", x.glass(0, 5, what), -1);
            Kit.due("below", x.glass(-1, 0, what), -1);
            Kit.due("below", x.glass(0, -1, what), -1);
            for (int far : FAR) {
                Kit.due("far off", x.glass(far, 0, what), -1);
                Kit.due("far off", x.glass(0, far, what), -1);
                Kit.due("far off", x.glass(far, far, what), -1);
                Kit.due("far off", x.glass(0, 1, far), -1);
            }
        }
        Kit.due("what -1", x.glass(0, 1, -1), -1);
        Kit.due("what 2", x.glass(0, 1, 2), -1);
        ScratchLadder y = Kit.stones(2);
        Kit.rule(y, "cuts");
        Kit.due("no third one", y.glass(0, 1, 0), -1);
    }

    private static void called() {
        Kit.sentence("of 1 .. 8 STONES all rows of them (the NAME of the i-th one is given to STONE i anew) in which each that a TRIAL SAYS is above another one has a NAME KNOWN as a greater number than the other's.");
        ScratchLadder x = new ScratchLadder();
        int[] rows = {-1, 1, 2, 6, 24, 120, 720, 5040, 40320, -1, -1, -1, -1};
        for (int many = 0; many <= 12; many++) {
            int all = (1 << many) - 1;
            Kit.due(many + " stones", x.called(0), rows[many]);
            Kit.due(many + " stones in all", x.called(1), rows[many] < 0 ? -1 : 0);
            Kit.due(many + " stones in some", x.called(2), rows[many] < 0 ? -1 : many == 1 ? 0 : all);
            x.stone(many % 12, 1, 1);
        }
        ScratchLadder y = Kit.stones(3);
        y.known(0, 0);
        y.known(1, 1);
        y.known(2, 1000);
        chain(y, 0, 1);
        Kit.due("greater alone", y.called(0), 3);
        chain(y, 1, 2);
        Kit.due("one row", y.called(0), 1);
        Kit.due("0 and 2 are wrong", y.called(1), 5);
        Kit.due("0 and 2 are wrong", y.called(2), 5);
        y.known(1, 0);
        Kit.due("alike is not greater", y.called(0), 0);
        Kit.sentence("WRONG is a STONE that has another NAME than it is called by (one of the same number is the same).");
        ScratchLadder z = new ScratchLadder();
        z.stone(7, 1, 1);
        z.stone(7, 1, 1);
        Kit.due("two rows", z.called(0), 2);
        Kit.due("the other's is the same", z.called(2), 0);
        z.stone(8, 1, 1);
        Kit.due("six rows", z.called(0), 6);
        Kit.due("none is wrong in all", z.called(1), 0);
        Kit.due("each is in some", z.called(2), 7);
        z.known(8, 1);
        Kit.above(z, 0, 1, 0, 2);
        Kit.due("8 for 0, 7 for the others", z.called(0), 2);
        Kit.due("1 keeps its name", z.called(1), 5);
        Kit.due("1 keeps its name", z.called(2), 5);
        Kit.sentence("as bits (0 without rows). NONE (no STONES, more than 8, too).");
        Kit.above(z, 1, 0);
        for (int what = 0; what < 3; what++) {
            Kit.due("a ring", z.called(what), 0);
        }
        Kit.due("what -1", z.called(-1), -1);
        Kit.due("what 3", z.called(3), -1);
        for (int far : FAR) {
            Kit.due("far off", z.called(far), -1);
        }
        z.view(2, 15, 15);
        Kit.due("out of view", z.called(0), 6);
    }

    private static void lose() {
        Kit.sentence("How many TRIALS SAY otherwise than KNOWN numbers of NAMES do (alike ones too).");
        ScratchLadder x = Kit.stones(3);
        Kit.due("no trials", x.lose(), 0);
        Kit.above(x, 0, 1);
        Kit.due("0 and 0 are alike", x.lose(), 1);
        x.known(0, 1);
        Kit.due("greater", x.lose(), 0);
        x.known(1, 1);
        Kit.due("alike", x.lose(), 1);
        x.known(1, 1000);
        Kit.due("less", x.lose(), 1);
        x.known(0, 1000);
        Kit.due("alike", x.lose(), 1);
        Kit.row(x, 0, 1, 0, 0, 0, 0, 0, 0, 1, 0, 0, 0, 3, 0, 0, 1, 0, 0, 0, 2, 0, 1, 2, 0, 0, 0, 1, 0);
        Kit.due("nothing and both say nothing", x.lose(), 2);
        x.found(3);
        Kit.due("one fell out", x.lose(), 1);
        x.view(4, 15, 15);
        Kit.due("out of view", x.lose(), 0);
        ScratchLadder y = new ScratchLadder();
        y.stone(11, 1, 1);
        y.stone(11, 1, 1);
        y.known(11, 5);
        Kit.above(y, 0, 1, 1, 0);
        Kit.due("of one name both ways", y.lose(), 2);
    }

    public static void main(String[] args) {
        over();
        rings();
        orders();
        best();
        drops();
        against();
        spans();
        settles();
        fewest();
        choice();
        dents();
        grooves();
        otherwise();
        shapes();
        glass();
        called();
        lose();
        Kit.end();
    }
}
