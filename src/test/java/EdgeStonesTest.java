/** The edges of the document's Terms I and of promises 1 to 7. */
public final class EdgeStonesTest {
    private static final int[] FAR = {Kit.LOW, Kit.LOW + 1, -1000001, Kit.HIGH - 1, Kit.HIGH};

    private static void newObject() {
        Kit.sentence("`ScratchLadder()`: No STONES, TEXTS, TRIALS.");
        ScratchLadder x = new ScratchLadder();
        for (int what = 0; what < 5; what++) {
            Kit.due("count(" + what + ")", x.count(what), 0);
        }
        Kit.due("a stone", x.point(0, 0), -2);
        Kit.due("a text", x.law(0), -2);
        Kit.due("a trial", x.of(0, 0), -1);
        Kit.due("found", x.found(0), -2);
        Kit.due("an image", x.back(0), -2);
        Kit.due("another image", x.back(1), -2);
        Kit.due("orders", x.orders(), 1);
        Kit.due("untried", x.untried(), 0);
        Kit.due("lose", x.lose(), 0);
        Kit.due("otherwise by dents", x.otherwise(1), 0);
        Kit.due("otherwise by grooves", x.otherwise(0), 0);
        Kit.due("slips", x.slips(0, 0), 0);
        Kit.due("drop", x.drop(0), -1);
        Kit.due("dents", x.dents(1, 0), -1);
        Kit.due("grooves", x.grooves(0), -1);
        Kit.due("fewest", x.fewest(3, 0), -1);
        Kit.due("choice", x.choice(1, 0), -1);
        Kit.due("view", x.view(7, 15, 15), 0);
        Kit.sentence("The constants: `NONE = -1`: There is none.");
        Kit.due("NONE", ScratchLadder.NONE, -1);
        ScratchLadder y = Kit.stones(2);
        Kit.due("a second object has its own", x.count(0), 0);
        Kit.due("the second", y.count(0), 2);
    }

    private static void twelveStones() {
        Kit.sentence("STONES 0 .. 11 (12 at most)");
        ScratchLadder x = new ScratchLadder();
        for (int i = 0; i < 12; i++) {
            Kit.due("not there yet", x.point(i, 0), -2);
            Kit.due("stone", x.stone(11 - i, 1, 0), i);
            Kit.due("now it is there", x.point(i, 0), 0);
        }
        Kit.due("a 13th", x.stone(0, 1, 0), -5);
        Kit.due("status", x.status(), -5);
        Kit.due("a 14th", x.stone(0, 1, 0), -5);
        Kit.due("count", x.count(0), 12);
        Kit.due("number 12", x.point(12, 0), -2);
        Kit.due("number -1", x.point(-1, 0), -2);
        Kit.sentence("`int stone(int name, int pieces, int uses)`: A STONE: its number. -1; -5.");
        Kit.due("-1 ahead of -5: name", x.stone(12, 1, 0), -1);
        Kit.due("-1 ahead of -5: pieces", x.stone(0, 0, 0), -1);
        Kit.due("-1 ahead of -5: uses", x.stone(0, 1, 201), -1);
    }

    private static void stoneNumbers() {
        Kit.sentence("a NAME 0 .. 11 by which it is called, PIECES 1 .. 100 of it, USES 0 .. 200");
        ScratchLadder x = new ScratchLadder();
        for (int far : FAR) {
            Kit.due("a name far off", x.stone(far, 1, 0), -1);
            Kit.due("pieces far off", x.stone(0, far, 0), -1);
            Kit.due("uses far off", x.stone(0, 1, far), -1);
        }
        Kit.due("a name below", x.stone(-1, 1, 0), -1);
        Kit.due("a name above", x.stone(12, 1, 0), -1);
        Kit.due("no pieces", x.stone(0, 0, 0), -1);
        Kit.due("pieces below 0", x.stone(0, -1, 0), -1);
        Kit.due("too many pieces", x.stone(0, 101, 0), -1);
        Kit.due("uses below", x.stone(0, 1, -1), -1);
        Kit.due("too many uses", x.stone(0, 1, 201), -1);
        Kit.due("none was made", x.count(0), 0);
        Kit.due("none was used", x.count(3), 0);
        Kit.due("the least", x.stone(0, 1, 0), 0);
        Kit.due("the greatest", x.stone(11, 100, 200), 1);
        Kit.due("uses of both", x.count(3), 200);
        Kit.due("more pieces", x.stone(11, 100, 1), 2);
        x.best();
        Kit.due("1 and 100 and 100", x.choice(3, 0), 10200);
    }

    private static void usesEnd() {
        Kit.sentence("USES 0 .. 200 (how many trials its corner has left)");
        ScratchLadder x = new ScratchLadder();
        x.stone(0, 1, 0);
        x.stone(1, 1, 1);
        x.stone(2, 1, 2);
        Kit.due("without uses", x.trial(0, 1, 0, 0, 0, 1), -3);
        Kit.due("status", x.status(), -3);
        Kit.due("its only one", x.trial(1, 0, 0, 0, 0, 1), 0);
        Kit.due("it is gone", x.trial(1, 0, 0, 0, 0, 1), -3);
        Kit.due("being tried takes none", x.trial(2, 1, 0, 0, 0, 1), 0);
        Kit.due("one is left", x.count(3), 1);
        Kit.due("the last of all", x.trial(2, 0, 2, 3, 3, 100), 0);
        Kit.due("none is left", x.count(3), 0);
        Kit.due("refused", x.trial(2, 0, 2, 3, 3, 100), -3);
        Kit.due("not below 0", x.count(3), 0);
    }

    private static void planes() {
        Kit.sentence("of each FACE 0 .. 2 and WAY 0 .. 3 a PLANE 0 .. 999, a POINT 0 .. 999 (all 0 at first)");
        ScratchLadder x = Kit.stones(12);
        int number = 855;
        for (int stone = 0; stone < 12; stone++) {
            for (int spot = 0; spot < 12; spot++) {
                Kit.due("0 at first", x.plane(stone, spot / 4, spot % 4, number), 0);
                number++;
            }
        }
        Kit.due("the greatest was told last", x.plane(11, 2, 3, 0), 998);
        Kit.due("each has its own", x.plane(0, 0, 0, 999), 855);
        Kit.due("each has its own", x.plane(0, 0, 1, 999), 856);
        Kit.due("each has its own", x.plane(0, 1, 0, 999), 859);
        Kit.due("each has its own", x.plane(1, 0, 0, 999), 867);
        Kit.due("999", x.plane(0, 0, 0, 0), 999);
        Kit.due("0 again", x.plane(0, 0, 0, 0), 0);
        for (int stone = 0; stone < 12; stone++) {
            Kit.due("0 at first", x.point(stone, 999 - stone), 0);
        }
        for (int stone = 0; stone < 12; stone++) {
            Kit.due("each has its own", x.point(stone, 0), 999 - stone);
        }
    }

    private static void planeRefused() {
        Kit.sentence("PLANE of a STONE's FACE and WAY: what it was. -1; -2.");
        ScratchLadder x = Kit.stones(1);
        x.plane(0, 0, 0, 7);
        int[][] bad = {{-1, 0, 0}, {3, 0, 0}, {0, -1, 0}, {0, 4, 0}, {0, 0, -1}, {0, 0, 1000}};
        for (int[] b : bad) {
            Kit.due("bad", x.plane(0, b[0], b[1], b[2]), -1);
            Kit.due("status", x.status(), -1);
            Kit.due("-1 ahead of -2", x.plane(1, b[0], b[1], b[2]), -1);
        }
        for (int far : FAR) {
            Kit.due("a face far off", x.plane(0, far, 0, 0), -1);
            Kit.due("a way far off", x.plane(0, 0, far, 0), -1);
            Kit.due("a number far off", x.plane(0, 0, 0, far), -1);
            Kit.due("a stone far off", x.plane(far, 0, 0, 0), -2);
        }
        Kit.due("the next stone", x.plane(1, 0, 0, 0), -2);
        Kit.due("status", x.status(), -2);
        Kit.due("it stays", x.plane(0, 0, 0, 7), 7);
        Kit.due("status", x.status(), 0);
        Kit.sentence("POINT of a STONE: what it was. -1; -2.");
        x.point(0, 9);
        for (int far : FAR) {
            Kit.due("a number far off", x.point(0, far), -1);
            Kit.due("a stone far off", x.point(far, 0), -2);
        }
        Kit.due("too small", x.point(0, -1), -1);
        Kit.due("too great", x.point(0, 1000), -1);
        Kit.due("-1 ahead of -2", x.point(1, 1000), -1);
        Kit.due("the next stone", x.point(1, 0), -2);
        Kit.due("status", x.status(), -2);
        Kit.due("it stays", x.point(0, 9), 9);
        Kit.due("status", x.status(), 0);
    }

    private static void knownNumbers() {
        Kit.sentence("NAMES are KNOWN as numbers 0 .. 1000 (0 at first).");
        ScratchLadder x = new ScratchLadder();
        for (int name = 0; name < 12; name++) {
            Kit.due("0 at first", x.known(name, 1000 - name), 0);
        }
        for (int name = 0; name < 12; name++) {
            Kit.due("each has its own", x.known(name, 0), 1000 - name);
        }
        Kit.sentence("A NAME is KNOWN as a number: as what it was. -1.");
        x.known(11, 5);
        for (int far : FAR) {
            Kit.due("a name far off", x.known(far, 0), -1);
            Kit.due("a number far off", x.known(11, far), -1);
        }
        Kit.due("a name below", x.known(-1, 0), -1);
        Kit.due("a name above", x.known(12, 0), -1);
        Kit.due("a number below", x.known(11, -1), -1);
        Kit.due("a number above", x.known(11, 1001), -1);
        Kit.due("status", x.status(), -1);
        Kit.due("it stays", x.known(11, 5), 5);
        Kit.due("status", x.status(), 0);
    }

    private static void hands() {
        Kit.sentence("HANDS 0 .. 3: SLIP 0 .. 100, DUST 0 .. 100 (0 at first).");
        ScratchLadder x = Kit.stones(2);
        for (int hand = 0; hand < 4; hand++) {
            Kit.due("neither slip nor dust at first", x.trial(0, 1, 0, 0, hand, 1), 0);
        }
        for (int hand = 0; hand < 4; hand++) {
            Kit.due("slip 100", x.hand(hand, 100, 100), 0);
            Kit.due("it always slips", x.trial(0, 1, 0, 0, hand, 1), 1);
            Kit.due("dust 100", x.hand(hand, 0, 100), 0);
            Kit.due("there is always dust", x.trial(0, 1, 0, 0, hand, 1), 2);
            Kit.due("neither", x.hand(hand, 0, 0), 0);
            Kit.due("as at first", x.trial(0, 1, 0, 0, hand, 1), 0);
        }
        Kit.sentence("SLIP and DUST of a HAND: 0. -1.");
        x.hand(0, 100, 0);
        for (int far : FAR) {
            Kit.due("a hand far off", x.hand(far, 0, 0), -1);
            Kit.due("a slip far off", x.hand(0, far, 0), -1);
            Kit.due("a dust far off", x.hand(0, 0, far), -1);
        }
        int[][] bad = {{-1, 0, 0}, {4, 0, 0}, {0, -1, 0}, {0, 101, 0}, {0, 0, -1}, {0, 0, 101}};
        for (int[] b : bad) {
            Kit.due("bad", x.hand(b[0], b[1], b[2]), -1);
            Kit.due("status", x.status(), -1);
        }
        Kit.due("its slip stays", x.trial(0, 1, 0, 0, 0, 1), 1);
        Kit.due("and is its own", x.trial(0, 1, 0, 0, 1, 1), 0);
    }

    /** The number that a SEED becomes by the first DRAW. */
    private static int next(int s) {
        return (int) ((s * 1103L + 12345L) % 1000003L);
    }

    private static int seedBefore(int wanted) {
        for (int seed = 0; seed <= 1000000; seed++) {
            if (next(seed) == wanted) {
                return seed;
            }
        }
        return -1;
    }

    /** Whether the next DRAW of 100 is just this: DUST beyond it makes powder, DUST of it none. */
    private static void dueDraw(String what, int seed, int draw) {
        for (int dust = Math.max(1, draw); dust <= Math.min(100, draw + 1); dust++) {
            ScratchLadder x = Kit.stones(2);
            x.hand(0, 0, dust);
            Kit.due("seed", x.seed(seed), 0);
            Kit.due(what + " against " + dust, x.trial(0, 1, 0, 0, 0, 1), draw < dust ? 2 : 0);
        }
    }

    private static void draws() {
        Kit.sentence("s becomes (s times 1103 and 12345) modulo 1,000,003, at first s is 0 (or the SEED told); a DRAW of n is the new s modulo n.");
        dueDraw("12345", 0, 45);
        // 1,103,012,345 is 1103 times 1,000,003 and 9036.
        dueDraw("9036", 1000000, 36);
        // 999,530 and 1,000,633: the modulo takes its first step between them.
        dueDraw("just below 1,000,003", 895, (895 * 1103 + 12345) % 100);
        dueDraw("just above it", 896, (896 * 1103 + 12345 - 1000003) % 100);
        dueDraw("0 drawn", seedBefore(0), 0);
        dueDraw("1,000,002 drawn", seedBefore(1000002), 2);
        dueDraw("99 drawn", seedBefore(99), 99);
        dueDraw("1,000,000 drawn", seedBefore(1000000), 0);
        ScratchLadder x = Kit.stones(2);
        x.hand(0, 0, 50);
        x.seed(seedBefore(1000002));
        int s = seedBefore(1000002);
        for (int i = 0; i < 60; i++) {
            s = next(s);
            Kit.due("draw " + i, x.trial(0, 1, 0, 0, 0, 1), s % 100 < 50 ? 2 : 0);
        }
        ScratchLadder y = Kit.stones(2);
        y.hand(0, 0, 46);
        Kit.due("at first s is 0", y.trial(0, 1, 0, 0, 0, 1), 2);
        y.seed(0);
        Kit.due("and again", y.trial(0, 1, 0, 0, 0, 1), 2);
    }

    private static void seeds() {
        Kit.sentence("DRAWS begin anew with a SEED (0 .. 1,000,000): 0. -1.");
        ScratchLadder x = Kit.stones(2);
        x.hand(0, 0, 42);
        Kit.due("a draw of 45", x.trial(0, 1, 0, 0, 0, 1), 0);
        Kit.due("below", x.seed(-1), -1);
        Kit.due("status", x.status(), -1);
        Kit.due("above", x.seed(1000001), -1);
        for (int far : FAR) {
            Kit.due("far off", x.seed(far), -1);
        }
        // 12345 times 1103 and 12345 is 13 times 1,000,003 and 628,841.
        Kit.due("the draws go on: 41", x.trial(0, 1, 0, 0, 0, 1), 2);
        Kit.due("the least", x.seed(0), 0);
        Kit.due("anew: 45", x.trial(0, 1, 0, 0, 0, 1), 0);
        Kit.due("the greatest", x.seed(1000000), 0);
        Kit.due("anew: 36", x.trial(0, 1, 0, 0, 0, 1), 2);
    }

    private static void refusedInOrder() {
        Kit.sentence("The first of these in that order.");
        ScratchLadder x = new ScratchLadder();
        x.stone(0, 1, 1);
        x.stone(1, 1, 0);
        Kit.due("-1 ahead of -2", x.trial(9, 9, 3, 0, 0, 1), -1);
        Kit.due("-1 ahead of -3", x.trial(1, 1, 0, 0, 0, 0), -1);
        Kit.due("-2 ahead of -3: no corner", x.trial(2, 2, 0, 0, 0, 1), -2);
        Kit.due("-2 ahead of -3: no uses", x.trial(1, 2, 0, 0, 0, 1), -2);
        Kit.fill(x, 120);
        Kit.due("-1 ahead of -5", x.trial(0, 1, 0, 0, 0, 101), -1);
        Kit.due("-2 ahead of -5", x.trial(0, 2, 0, 0, 0, 1), -2);
        Kit.due("-3 ahead of -5: the same", x.trial(0, 0, 0, 0, 0, 1), -3);
        Kit.due("-3 ahead of -5: no uses", x.trial(1, 0, 0, 0, 0, 1), -3);
        Kit.due("-5", x.trial(0, 1, 0, 0, 0, 1), -5);
        Kit.due("no use is gone", x.count(3), 1);
        for (int i = 0; i < 10; i++) {
            Kit.write(x, "cuts");
        }
        Kit.due("-5 ahead of -6", Kit.write(x, "cut"), -5);
        Kit.due("-1 ahead of -2", x.back(2), -1);
        Kit.due("-2", x.back(1), -2);
        Kit.due("-2 ahead of -3", x.found(120), -2);
        Kit.due("-3", x.found(119), -3);
    }

    public static void main(String[] args) {
        newObject();
        twelveStones();
        stoneNumbers();
        usesEnd();
        planes();
        planeRefused();
        knownNumbers();
        hands();
        draws();
        seeds();
        refusedInOrder();
        Kit.end();
    }
}
