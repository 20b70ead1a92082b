import java.util.ArrayList;
import java.util.List;

/**
 * The edges of promises 40 to 43, and what stays as it was: twins are made by the same calls, one
 * of them has a call more that must change nothing, and then both are asked all that can be asked.
 */
public final class EdgeStateTest {
    private static final int[] FAR = {Kit.LOW, Kit.LOW + 1, Kit.HIGH - 1, Kit.HIGH};

    /** A call with its answer. */
    interface Call {
        int on(ScratchLadder x);
    }

    private static ScratchLadder ordinary() {
        ScratchLadder x = new ScratchLadder();
        for (int i = 0; i < 4; i++) {
            x.stone(i, 5 - i, 9 + i);
            x.point(i, 400 - 50 * i);
            x.plane(i, 0, 0, 330 - 60 * i);
            x.plane(i, i % 3, i, 500);
            x.known(i, 100 * i);
        }
        x.stone(4, 1, 0);
        x.hand(1, 30, 40);
        x.hand(2, 0, 50);
        x.seed(4711);
        Kit.write(x, "cuts if point>plane;both if way=2;deep load*3;dent plane+load;rung 40 is 1;rung 30 is 2");
        Kit.write(x, "cuts if stone>corner;deep 1+hand");
        x.law(0);
        x.image(0);
        for (int i = 0; i < 12; i++) {
            x.trial(i % 4, (i + 1 + i / 4) % 4, i % 3, i / 3 % 4, i % 4, 1 + 7 * i);
        }
        Kit.row(x, 3, 0, 0, 0, 0, 2, 0, 2, 1, 1, 3, 3, 1, 77, 3, 1, 0, 0, 0, 2, 9);
        x.view(7, 15, 15);
        x.best();
        x.found(12);
        Kit.write(x, "cuts if 1 =");
        Kit.tape(x, "cuts;deep 3");
        x.law(0);
        return x;
    }

    /** As many STONES, TEXTS and TRIALS as there can be, and no TAPE. */
    private static ScratchLadder full() {
        ScratchLadder x = Kit.stones(12);
        for (int i = 0; i < 10; i++) {
            Kit.write(x, "cuts if corner<stone+" + i + ";deep 5;dent 9-corner;rung 5" + i + " is 3");
        }
        x.law(3);
        x.hand(1, 50, 50);
        x.image(1);
        for (int i = 0; i < 60; i++) {
            x.trial(i % 12, (i + 1 + i / 12) % 12, i % 3, i % 4, i % 4, 1 + i);
        }
        Kit.fill(x, 60);
        x.best();
        x.law(4);
        return x;
    }

    private static void askState(ScratchLadder x, List<Integer> answers) {
        for (int i = 0; i < 5; i++) {
            answers.add(x.count(i));
        }
        answers.add(x.fault());
        for (int i = 0; i < 12; i++) {
            answers.add(x.place(i));
            answers.add(x.dents(1 + i, i));
            answers.add(x.grooves(i));
            answers.add(x.settle(i));
            answers.add(x.span(i, i % 2));
            answers.add(x.ring(i));
        }
        for (int i = 0; i < 4; i++) {
            answers.add(x.drop(i));
            answers.add(x.slips(i, 0));
            answers.add(x.slips(i, 1));
            answers.add(x.choice(1 + i, 1));
            answers.add(x.cuts(i, 3 - i, i % 3, i));
            answers.add(x.says(i, (i + 1) % 4));
            answers.add(x.over(i, i));
        }
        for (int i = 0; i < 3; i++) {
            answers.add(x.called(i));
            answers.add(x.otherwise(i));
            answers.add(x.shapes(i, 15 >> i));
        }
        answers.add(x.orders());
        answers.add(x.untried());
        answers.add(x.lose());
        answers.add(x.fewest(15, 0));
    }

    /** All that can be seen of an object, at last by calls that change it. */
    private static List<Integer> allOf(ScratchLadder x) {
        List<Integer> answers = new ArrayList<>();
        askState(x, answers);
        for (int i = 0; i < 9; i++) {
            answers.add(x.of(i, i));
            answers.add(x.of(12, i));
            answers.add(x.of(x.count(2) - 1, i));
        }
        for (int hand = 0; hand < 4; hand++) {
            answers.add(x.trial(hand, (hand + 1) % 4, 0, 0, hand, 5));
            answers.add(x.trial(hand, (hand + 3) % 4, 1, 1, 1, 5));
        }
        answers.add(x.of(x.count(2) - 1, 6));
        for (int i = 0; i < 12; i++) {
            answers.add(x.known(i, 0));
            answers.add(x.point(i, 1));
            answers.add(x.plane(i, 0, 0, 2));
            answers.add(x.plane(i % 4, i % 3, i / 3, 2));
        }
        answers.add(x.text());
        answers.add(x.law(1));
        answers.add(x.law(0));
        answers.add(x.view(7, 15, 15));
        for (int k = 0; k < 2; k++) {
            answers.add(x.back(k));
            for (int i = 0; i < 4; i++) {
                answers.add(x.count(i));
                answers.add(x.point(i, 7));
            }
            answers.add(x.trial(0, 1, 0, 0, 1, 5));
            answers.add(x.law(0));
        }
        return answers;
    }

    private static void dueAlike(String what, ScratchLadder x, ScratchLadder twin) {
        List<Integer> got = allOf(x);
        List<Integer> want = allOf(twin);
        int first = 0;
        while (first < want.size() && got.get(first).equals(want.get(first))) {
            first++;
        }
        Kit.due(what + ": the first answer that is another", first, want.size());
    }

    private static void stays(String what, int answer, Call call) {
        ScratchLadder x = ordinary();
        Kit.due(what, call.on(x), answer);
        dueAlike(what, x, ordinary());
    }

    private static void staysFull(String what, int answer, Call call) {
        ScratchLadder x = full();
        Kit.due(what, call.on(x), answer);
        dueAlike(what + " (full)", x, full());
    }

    private static void refusedByNumber() {
        Kit.sentence("REFUSED by: -1 a number that can't be; -2 there is no such STONE, TEXT, TRIAL, IMAGE; -3 it can't be by what stands; -5 no room; -6 a TEXT, a ROW that can't be.");
        stays("stone", -1, x -> x.stone(12, 1, 1));
        stays("stone", -1, x -> x.stone(1, 0, 1));
        stays("stone", -1, x -> x.stone(1, 1, 201));
        stays("plane", -1, x -> x.plane(0, 3, 0, 7));
        stays("plane", -1, x -> x.plane(0, 0, 4, 7));
        stays("plane", -1, x -> x.plane(0, 0, 0, 1000));
        stays("point", -1, x -> x.point(0, 1000));
        stays("known", -1, x -> x.known(12, 7));
        stays("known", -1, x -> x.known(0, 1001));
        stays("hand", -1, x -> x.hand(4, 7, 7));
        stays("hand", -1, x -> x.hand(1, 7, 101));
        stays("hand", -1, x -> x.hand(1, 101, 7));
        stays("seed", -1, x -> x.seed(1000001));
        stays("trial", -1, x -> x.trial(0, 1, 3, 0, 1, 1));
        stays("trial", -1, x -> x.trial(0, 1, 0, 4, 1, 1));
        stays("trial", -1, x -> x.trial(0, 1, 0, 0, 4, 1));
        stays("trial", -1, x -> x.trial(0, 1, 0, 0, 1, 101));
        stays("view", -1, x -> x.view(8, 1, 1));
        stays("view", -1, x -> x.view(1, 16, 1));
        stays("view", -1, x -> x.view(1, 1, 16));
        stays("image", -1, x -> x.image(2));
        stays("back", -1, x -> x.back(2));
        stays("back", -1, x -> x.back(-1));
    }

    private static void refusedByState() {
        stays("plane", -2, x -> x.plane(5, 0, 0, 7));
        stays("point", -2, x -> x.point(5, 7));
        stays("law", -2, x -> x.law(2));
        stays("law", -2, x -> x.law(-1));
        stays("trial", -2, x -> x.trial(5, 0, 0, 0, 1, 1));
        stays("trial", -2, x -> x.trial(0, 5, 0, 0, 1, 1));
        stays("found", -2, x -> x.found(15));
        stays("back", -2, x -> x.back(1));
        stays("trial", -3, x -> x.trial(4, 0, 0, 0, 1, 1));
        stays("trial", -3, x -> x.trial(0, 0, 0, 0, 1, 1));
        stays("found", -3, x -> x.found(12));
        stays("found", -3, x -> x.found(13));
        staysFull("stone", -5, x -> x.stone(1, 1, 1));
        staysFull("text", -5, x -> x.text());
        staysFull("trial", -5, x -> x.trial(0, 1, 0, 0, 1, 1));
        staysFull("row", -6, x -> x.row());
        staysFull("back", -2, x -> x.back(0));
        stays("feed", -1, x -> {
            Kit.tape(x, " ".repeat(370));
            int answer = x.feed(1, 2, 3, 4, 5);
            x.end(11);
            return answer;
        });
        stays("end", -1, x -> x.end(12));
        stays("end", -1, x -> x.end(-1));
        // A TEXT with a FAULT and a ROW of none take the TAPE, and nothing else.
        ScratchLadder x = ordinary();
        x.end(4);
        Kit.tape(x, " cuts");
        Kit.due("text", x.text(), -6);
        Kit.due("fault", x.fault(), 5);
        ScratchLadder twin = ordinary();
        twin.end(0);
        Kit.write(twin, "     x");
        dueAlike("text", x, twin);
        ScratchLadder y = ordinary();
        Kit.due("a row of none", y.row(), 0);
        ScratchLadder other = ordinary();
        other.end(0);
        dueAlike("row", y, other);
    }

    /** What only answers, with numbers that can be and with some that can't. */
    private static int askAll(ScratchLadder x, int a, int b) {
        int sum = x.cuts(a, b, a, b) + x.of(a, b) + x.says(a, b) + x.over(a, b) + x.orders()
                + x.ahead(a, b) + x.ring(a) + x.untried() + x.place(a) + x.drop(a) + x.span(a, b)
                + x.settle(a) + x.fewest(a, b) + x.choice(a, b) + x.dents(a, b) + x.grooves(a);
        return sum + x.otherwise(a) + x.shapes(a, b) + x.slips(a, b) + x.glass(a, b, 0)
                + x.called(a) + x.lose() + x.count(a) + x.status() + x.fault() + x.fewest(31, 1);
    }

    private static void asking() {
        Kit.sentence("Nothing is promised beyond the answers and state changes described above");
        int[][] pairs = {{0, 1}, {1, 0}, {2, 3}, {3, 3}, {12, 0}, {0, 12}, {-1, -1},
            {Kit.LOW, Kit.HIGH}, {Kit.HIGH, Kit.LOW}};
        for (int[] p : pairs) {
            stays("asking " + p[0] + ", " + p[1], 0, x -> askAll(x, p[0], p[1]) * 0);
            staysFull("asking " + p[0] + ", " + p[1], 0, x -> askAll(x, p[0], p[1]) * 0);
        }
    }

    private static void imageNumbers() {
        Kit.sentence("IMAGE k is kept: 0; -1.");
        ScratchLadder x = Kit.stones(1);
        Kit.due("2", x.image(2), -1);
        Kit.due("status", x.status(), -1);
        Kit.due("-1", x.image(-1), -1);
        for (int far : FAR) {
            Kit.due("far off", x.image(far), -1);
        }
        Kit.sentence("BACK to IMAGE k: 0. -1; -2 it was not kept.");
        Kit.due("2", x.back(2), -1);
        Kit.due("-1", x.back(-1), -1);
        for (int far : FAR) {
            Kit.due("far off", x.back(far), -1);
        }
        Kit.due("neither was kept", x.back(0), -2);
        Kit.due("neither was kept", x.back(1), -2);
        Kit.due("status", x.status(), -2);
        Kit.due("kept", x.image(1), 0);
        Kit.due("status", x.status(), 0);
        Kit.due("the other was not", x.back(0), -2);
        Kit.due("this was", x.back(1), 0);
        Kit.due("status", x.status(), 0);
    }

    private static void imagesStay() {
        Kit.sentence("IMAGES 0, 1 keep all but the TAPE, FAULT and the latest BEST; BACK to one all is as it was then (IMAGES stay).");
        ScratchLadder x = new ScratchLadder();
        x.image(0);
        ScratchLadder filled = full();
        filled.image(0);
        Kit.due("of a new object", x.back(0), 0);
        x.stone(3, 3, 3);
        x.image(1);
        x.stone(4, 4, 4);
        for (int i = 0; i < 3; i++) {
            Kit.due("to the first", x.back(0), 0);
            Kit.due("no stones", x.count(0), 0);
            Kit.due("to the second", x.back(1), 0);
            Kit.due("one stone", x.count(0), 1);
            Kit.due("its uses", x.count(3), 3);
            x.stone(5, 5, 5);
        }
        x.image(1);
        x.back(0);
        x.back(1);
        Kit.due("kept anew", x.count(0), 2);
        Kit.due("a full one", filled.back(0), 0);
        Kit.due("its trials", filled.count(2), 120);
        Kit.due("its stones", filled.count(0), 12);
        Kit.due("its texts", filled.count(1), 10);
        Kit.due("back to one with fewer", filled.back(1), 0);
        Kit.due("its trials", filled.count(2), 0);
        Kit.due("its law", filled.law(0), 3);
        Kit.due("there is room", filled.trial(0, 1, 0, 0, 0, 1), 1);
        Kit.due("and the full one again", filled.back(0), 0);
        Kit.due("is full", filled.trial(0, 1, 0, 0, 0, 1), -5);
    }

    /** Everything that can change is changed behind an image; then twins are alike. */
    private static void imagesKeepAll() {
        for (int k = 0; k < 2; k++) {
            ScratchLadder x = ordinary();
            ScratchLadder twin = ordinary();
            x.image(k);
            twin.image(k);
            for (int i = 0; i < 5; i++) {
                x.point(i, 900 + i);
                x.plane(i, i % 3, i % 4, 900 + i);
                x.plane(i, 0, 0, 900 + i);
                x.known(i, 900 - i);
            }
            x.stone(9, 9, 9);
            x.hand(1, 100, 0);
            x.hand(2, 100, 0);
            x.seed(5);
            x.law(1);
            x.trial(0, 1, 0, 0, 1, 1);
            x.found(14);
            x.view(1, 1, 1);
            Kit.due("one text more", x.text(), 2);
            Kit.due("back", x.back(k), 0);
            Kit.due("the tape stays empty", x.count(4), 0);
            Kit.due("the fault stays away", x.fault(), -1);
            x.end(0);
            Kit.write(x, "cuts if 1 =");
            Kit.tape(x, "cuts;deep 3");
            dueAlike("back to " + k, x, twin);
        }
        ScratchLadder y = Kit.stones(2);
        y.image(0);
        Kit.above(y, 1, 0);
        y.best();
        Kit.write(y, "x");
        y.feed(0, 0, 0, 0, 0);
        y.back(0);
        Kit.due("the best is the latest", y.place(0), 1);
        Kit.due("the fault", y.fault(), 0);
        Kit.due("the tape", y.count(4), 20);
    }

    private static void imagesKeepTexts() {
        ScratchLadder x = Kit.stones(2);
        x.image(0);
        for (int i = 0; i < 10; i++) {
            Kit.write(x, "cuts");
        }
        x.law(9);
        x.image(1);
        x.back(0);
        Kit.due("no texts", x.count(1), 0);
        Kit.due("no law", x.cuts(0, 1, 0, 0), 0);
        for (int i = 0; i < 10; i++) {
            Kit.due("numbers begin anew", Kit.write(x, "both"), i);
        }
        Kit.due("there was none", x.law(9), -1);
        Kit.due("no cuts", x.cuts(0, 1, 0, 0), 0);
        x.back(1);
        Kit.due("cuts", x.cuts(0, 1, 0, 0), 1);
        Kit.due("the law", x.law(0), 9);
        Kit.due("another that cuts", x.cuts(0, 1, 0, 0), 1);
    }

    private static void counts() {
        Kit.sentence("0 STONES, 1 TEXTS, 2 TRIALS, 3 USES left of all, 4 bytes of the TAPE. NONE for others.");
        ScratchLadder x = full();
        Kit.due("stones", x.count(0), 12);
        Kit.due("texts", x.count(1), 10);
        Kit.due("trials", x.count(2), 120);
        Kit.due("uses", x.count(3), 2340);
        Kit.due("bytes", x.count(4), 0);
        for (int i = 0; i < 20; i++) {
            x.feed(i, i, i, i, i);
        }
        Kit.due("bytes", x.count(4), 400);
        Kit.due("-1", x.count(-1), -1);
        Kit.due("5", x.count(5), -1);
        for (int far : FAR) {
            Kit.due("far off", x.count(far), -1);
        }
    }

    /** Each call that status() is about, one that goes well and one that is refused. */
    private static void statuses() {
        Kit.sentence("0 if it was not, or ahead of any.");
        Kit.due("ahead of any", new ScratchLadder().status(), 0);
        Call[] fine = {x -> x.stone(0, 1, 1), x -> x.plane(0, 0, 0, 0), x -> x.point(0, 0),
            x -> x.known(0, 0), x -> x.hand(0, 0, 0), x -> x.seed(0), x -> Kit.write(x, "cuts"),
            x -> x.law(0), x -> x.trial(1, 0, 0, 0, 0, 1), x -> Kit.row(x, 0, 1, 0, 0, 0, 2, 0),
            x -> x.found(x.count(2) - 1), x -> x.view(7, 15, 15), x -> x.image(0), x -> x.back(0)};
        Call[] bad = {x -> x.stone(0, 0, 1), x -> x.plane(9, 0, 0, 0), x -> x.point(0, 1000),
            x -> x.known(0, 1001), x -> x.hand(4, 0, 0), x -> x.seed(-1), x -> Kit.write(x, "cut"),
            x -> x.law(9), x -> x.trial(1, 1, 0, 0, 0, 1), x -> x.row(), x -> x.found(0),
            x -> x.view(0, 15, 15), x -> x.image(2), x -> x.back(1)};
        int[] why = {-1, -2, -1, -1, -1, -1, -6, -2, -3, -6, -3, -1, -1, -2};
        ScratchLadder x = Kit.stones(2);
        Kit.fill(x, 1);
        for (int i = 0; i < fine.length; i++) {
            Kit.due("refused " + i, bad[i].on(x), why[i]);
            Kit.due("status " + i, x.status(), why[i]);
            Kit.due("status again", x.status(), why[i]);
            x.end(0);
            Kit.due("not refused " + i, fine[i].on(x) >= -1 ? 0 : 1, 0);
            Kit.due("status of it " + i, x.status(), 0);
        }
        Kit.sentence("What the latest call of stone, plane, point, known, hand, seed, text, law, trial, row, found, view, image, back was REFUSED by");
        ScratchLadder y = Kit.stones(2);
        y.law(7);
        Call[] others = {z -> z.feed(0, 0, 0, 0, 0), z -> z.end(0), z -> z.end(-1), z -> z.fault(),
            z -> z.cuts(0, 1, 0, 0), z -> z.cuts(9, 9, 9, 9), z -> z.of(9, 9), z -> z.says(0, 0),
            z -> z.over(0, 1), z -> z.orders(), z -> z.ahead(0, 0), z -> z.ring(9),
            z -> z.untried(), z -> z.best(), z -> z.place(9), z -> z.drop(9), z -> z.span(9, 9),
            z -> z.settle(9), z -> z.fewest(0, 0), z -> z.choice(0, 0), z -> z.dents(0, 0),
            z -> z.grooves(9), z -> z.otherwise(-1), z -> z.shapes(9, 0), z -> z.slips(9, 0),
            z -> z.glass(0, 0, 0), z -> z.called(9), z -> z.lose(), z -> z.count(9)};
        for (int i = 0; i < others.length; i++) {
            others[i].on(y);
            Kit.due("other call " + i + " leaves it", y.status(), -2);
        }
        y.seed(0);
        for (int i = 0; i < others.length; i++) {
            others[i].on(y);
            Kit.due("other call " + i + " leaves it", y.status(), 0);
        }
    }

    private static void lastCall() {
        Kit.sentence("An object is used for at most 512 calls after it has been made; what later calls answer is free.");
        ScratchLadder x = Kit.stones(12);
        x.hand(0, 0, 50);
        x.image(0);
        for (int i = 0; i < 166; i++) {
            int seed = 6000 * i;
            int left = (seed * 1103L + 12345) % 1000003 % 100 < 50 ? 2 : 0;
            Kit.due("call " + (15 + 3 * i), x.seed(seed), 0);
            Kit.due("call " + (16 + 3 * i), x.trial(i % 12, (i + 1) % 12, 0, 0, 0, 1), left);
            Kit.due("call " + (17 + 3 * i), i == 165 ? x.count(3) : x.back(0), i == 165 ? 2399 : 0);
        }
    }

    public static void main(String[] args) {
        refusedByNumber();
        refusedByState();
        asking();
        imageNumbers();
        imagesStay();
        imagesKeepAll();
        imagesKeepTexts();
        counts();
        statuses();
        lastCall();
        Kit.end();
    }
}
