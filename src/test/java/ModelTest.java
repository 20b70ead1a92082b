import java.util.Random;

/**
 * Many runs of calls, drawn from told seeds, on a new ScratchLadder and on a new Model, which
 * must answer alike. Each run prefers some calls, so that long states of every kind come up.
 */
public final class ModelTest {
    private static final String[] WORDS = {"point", "plane", "load", "hand", "face", "way", "corner",
        "stone"};
    private static final String[] TOKENS = {"rung", "is", "cuts", "both", "deep", "dent", "if", "or",
        "and", "not", "(", ")", "[", "]", "<", ">", "=", "+", "-", "*", "/", ";", "1", "7",
        "100000", "100001", "1000", "1001", "12", "11", "point", "plane", "load", "hand", "face",
        "way", "corner", "stone", " ", "A", "x"};

    private final Random random;
    private final ScratchLadder real = new ScratchLadder();
    private final Model model = new Model();
    private final StringBuilder story = new StringBuilder();
    private final int mostStones;
    private boolean wrong = false;

    private ModelTest(long seed) {
        random = new Random(seed);
        // Rows of more than seven are too many to write out in each call.
        mostStones = random.nextInt(8);
    }

    private int upTo(int n) {
        return random.nextInt(n);
    }

    /** Mostly a number that can be, sometimes one that can't. */
    private int around(int low, int high) {
        int dice = upTo(40);
        if (dice == 0) {
            return low - 1;
        }
        if (dice == 1) {
            return high + 1;
        }
        if (dice == 2) {
            return upTo(2) == 0 ? Integer.MIN_VALUE : Integer.MAX_VALUE;
        }
        return dice < 6 ? low : dice < 9 ? high : low + upTo(high - low + 1);
    }

    private int someStone() {
        return around(0, Math.max(0, model.count(0) - 1));
    }

    private void compare(String call, int got, int due) {
        story.append(call).append(" -> ").append(got).append('\n');
        if (got != due) {
            story.append("  due is ").append(due).append('\n');
            wrong = true;
        }
    }

    private String part(int depth) {
        int dice = upTo(depth > 0 ? 5 : 4);
        return dice == 4 ? "[" + sum(depth - 1) + "]" : dice < 2 ? WORDS[upTo(8)]
                : Integer.toString(upTo(3) == 0 ? upTo(100001) : upTo(12));
    }

    private String sum(int depth) {
        StringBuilder s = new StringBuilder(part(depth));
        while (upTo(3) == 0) {
            s.append(' ').append("+-*/".charAt(upTo(4))).append(' ').append(part(depth));
        }
        return s.toString();
    }

    private String plain(int depth) {
        int dice = upTo(8);
        if (dice == 0) {
            return "not " + plain(depth);
        }
        if (dice == 1 && depth > 0) {
            return "(" + test(depth - 1) + ")";
        }
        return upTo(2) == 0 ? "point" + "<>=".charAt(upTo(3)) + "plane"
                : sum(depth) + "<>=".charAt(upTo(3)) + sum(depth);
    }

    private String test(int depth) {
        StringBuilder s = new StringBuilder(plain(depth));
        while (upTo(3) == 0) {
            s.append(upTo(2) == 0 ? " or " : " and ").append(plain(depth));
        }
        return s.toString();
    }

    private String clause() {
        int dice = upTo(5);
        String s = dice == 0 ? "rung " + upTo(1001) + " is " + upTo(8)
                : dice == 1 ? "cuts" : dice == 2 ? "both" : dice == 3 ? "deep " + sum(2)
                : "dent " + sum(2);
        return dice > 0 && upTo(3) > 0 ? s + " if " + test(2) : s;
    }

    private String someText() {
        StringBuilder s = new StringBuilder(clause());
        while (upTo(4) > 0 && s.length() < 300) {
            s.append(';').append(clause());
        }
        int spoilt = upTo(4) == 0 ? 1 + upTo(3) : 0;
        for (int i = 0; i < spoilt; i++) {
            int at = upTo(s.length() + 1);
            if (upTo(2) == 0) {
                s.insert(at, TOKENS[upTo(TOKENS.length)]);
            } else {
                s.delete(at, Math.min(s.length(), at + 1 + upTo(4)));
            }
        }
        return s.substring(0, Math.min(s.length(), 400));
    }

    private void feed(byte[] bytes) {
        while (model.count(4) + bytes.length > 400) {
            int n = 0;
            compare("end(0)", real.end(n), model.end(n));
        }
        int due = model.count(4) + bytes.length;
        for (int at = 0; at < bytes.length; at += 20) {
            int[] fours = new int[5];
            for (int i = 0; i < 20; i++) {
                int b = at + i < bytes.length ? bytes[at + i] & 255 : upTo(256);
                fours[i / 4] = fours[i / 4] << 8 | b;
            }
            compare("feed " + new String(bytes, at, Math.min(20, bytes.length - at),
                    java.nio.charset.StandardCharsets.ISO_8859_1),
                    real.feed(fours[0], fours[1], fours[2], fours[3], fours[4]),
                    model.feed(fours[0], fours[1], fours[2], fours[3], fours[4]));
        }
        compare("end(" + due + ")", real.end(due), model.end(due));
    }

    private void write() {
        String s = someText();
        if (upTo(20) > 0) {
            real.end(0);
            model.end(0);
        }
        feed(s.getBytes(java.nio.charset.StandardCharsets.ISO_8859_1));
        compare("text()", real.text(), model.text());
        compare("fault()", real.fault(), model.fault());
        if (upTo(2) == 0) {
            int i = around(0, Math.max(0, model.count(1) - 1));
            compare("law(" + i + ")", real.law(i), model.law(i));
        }
    }

    private void rowOfTrials() {
        byte[] bytes = new byte[upTo(60)];
        int stones = Math.max(1, model.count(0));
        int[] most = {stones, stones, 3, 4, 4, 4, 256};
        for (int i = 0; i < bytes.length; i++) {
            bytes[i] = (byte) (upTo(most[i % 7]) + (upTo(60) == 0 ? 1 : 0));
        }
        feed(bytes);
        compare("row()", real.row(), model.row());
    }

    private void make() {
        switch (upTo(12)) {
            case 0, 1 -> {
                int name = around(0, 11);
                int pieces = around(1, 100);
                int uses = around(0, 200);
                if (model.count(0) < mostStones) {
                    compare("stone(" + name + "," + pieces + "," + uses + ")",
                            real.stone(name, pieces, uses), model.stone(name, pieces, uses));
                }
            }
            case 2 -> {
                int stone = someStone();
                int face = around(0, 2);
                int way = around(0, 3);
                int number = around(0, 999);
                compare("plane(" + stone + "," + face + "," + way + "," + number + ")",
                        real.plane(stone, face, way, number), model.plane(stone, face, way, number));
            }
            case 3 -> {
                int stone = someStone();
                int number = around(0, 999);
                compare("point(" + stone + "," + number + ")", real.point(stone, number),
                        model.point(stone, number));
            }
            case 4 -> {
                int name = around(0, 11);
                int number = upTo(2) == 0 ? around(0, 1000) : upTo(4);
                compare("known(" + name + "," + number + ")", real.known(name, number),
                        model.known(name, number));
            }
            case 5 -> {
                int hand = around(0, 3);
                int slip = around(0, 100);
                int dust = around(0, 100);
                compare("hand(" + hand + "," + slip + "," + dust + ")", real.hand(hand, slip, dust),
                        model.hand(hand, slip, dust));
            }
            case 6 -> {
                int seed = around(0, 1000000);
                compare("seed(" + seed + ")", real.seed(seed), model.seed(seed));
            }
            case 7 -> write();
            case 8 -> rowOfTrials();
            case 9 -> {
                int trial = around(0, Math.max(0, model.count(2) - 1));
                compare("found(" + trial + ")", real.found(trial), model.found(trial));
            }
            case 10 -> {
                int faces = upTo(2) == 0 ? 7 : around(1, 7);
                int ways = upTo(2) == 0 ? 15 : around(1, 15);
                int hands = upTo(2) == 0 ? 15 : around(1, 15);
                compare("view(" + faces + "," + ways + "," + hands + ")",
                        real.view(faces, ways, hands), model.view(faces, ways, hands));
            }
            default -> {
                int k = around(0, 1);
                if (upTo(3) > 0) {
                    compare("image(" + k + ")", real.image(k), model.image(k));
                } else {
                    compare("back(" + k + ")", real.back(k), model.back(k));
                }
            }
        }
    }

    private void tryOut() {
        int corner = someStone();
        int stone = someStone();
        int face = around(0, 2);
        int way = around(0, 3);
        int hand = around(0, 3);
        int load = around(1, 100);
        compare("trial(" + corner + "," + stone + "," + face + "," + way + "," + hand + "," + load
                + ")", real.trial(corner, stone, face, way, hand, load),
                model.trial(corner, stone, face, way, hand, load));
        int what = around(0, 8);
        int last = model.count(2) - 1;
        compare("of(" + last + "," + what + ")", real.of(last, what), model.of(last, what));
        compare("of(" + last + ",6)", real.of(last, 6), model.of(last, 6));
    }

    private void askOne() {
        int a = someStone();
        int b = someStone();
        int what = around(0, 1);
        int i = around(0, 7);
        int load = around(1, 100);
        switch (upTo(27)) {
            case 0 -> {
                int face = around(0, 2);
                int way = around(0, 3);
                compare("cuts(" + a + "," + b + "," + face + "," + way + ")",
                        real.cuts(a, b, face, way), model.cuts(a, b, face, way));
            }
            case 1 -> compare("says(" + a + "," + b + ")", real.says(a, b), model.says(a, b));
            case 2 -> compare("over(" + a + "," + b + ")", real.over(a, b), model.over(a, b));
            case 3 -> compare("orders()", real.orders(), model.orders());
            case 4 -> compare("ahead(" + a + "," + b + ")", real.ahead(a, b), model.ahead(a, b));
            case 5 -> compare("ring(" + a + ")", real.ring(a), model.ring(a));
            case 6 -> compare("untried()", real.untried(), model.untried());
            case 7, 8 -> compare("best()", real.best(), model.best());
            case 9 -> compare("place(" + i + ")", real.place(i), model.place(i));
            case 10 -> compare("drop(" + i + ")", real.drop(i), model.drop(i));
            case 11 -> compare("span(" + a + "," + what + ")", real.span(a, what),
                    model.span(a, what));
            case 12 -> compare("settle(" + a + ")", real.settle(a), model.settle(a));
            case 13, 14 -> {
                int bits = around(0, (1 << model.count(0)) - 1);
                compare("fewest(" + bits + "," + what + ")", real.fewest(bits, what),
                        model.fewest(bits, what));
            }
            case 15, 16 -> compare("choice(" + i + "," + what + ")", real.choice(i, what),
                    model.choice(i, what));
            case 17 -> compare("dents(" + load + "," + i + ")", real.dents(load, i),
                    model.dents(load, i));
            case 18 -> compare("grooves(" + i + ")", real.grooves(i), model.grooves(i));
            case 19 -> {
                int by = upTo(2) == 0 ? 0 : around(0, 100);
                compare("otherwise(" + by + ")", real.otherwise(by), model.otherwise(by));
            }
            case 20 -> {
                int marks = upTo(2) == 0 ? 15 : around(0, 15);
                compare("shapes(" + a + "," + marks + ")", real.shapes(a, marks),
                        model.shapes(a, marks));
            }
            case 21 -> {
                int hand = around(0, 3);
                compare("slips(" + hand + "," + what + ")", real.slips(hand, what),
                        model.slips(hand, what));
            }
            case 22 -> compare("glass(" + a + "," + b + "," + what + ")", real.glass(a, b, what),
                    model.glass(a, b, what));
            case 23 -> {
                int which = around(0, 2);
                compare("called(" + which + ")", real.called(which), model.called(which));
            }
            case 24 -> compare("lose()", real.lose(), model.lose());
            case 25 -> {
                int which = around(0, 4);
                compare("count(" + which + ")", real.count(which), model.count(which));
            }
            default -> compare("status()", real.status(), model.status());
        }
    }

    /** One run: whether all answers were alike. */
    private boolean run() {
        int making = 1 + upTo(6);
        int trying = upTo(6);
        int asking = 1 + upTo(10);
        for (int i = 0; i < mostStones && upTo(6) > 0; i++) {
            compare("stone", real.stone(i, 1 + i, 50), model.stone(i, 1 + i, 50));
        }
        for (int i = 0; i < 150 && !wrong; i++) {
            int dice = upTo(making + trying + asking);
            if (dice < making) {
                make();
            } else if (dice < making + trying) {
                tryOut();
            } else {
                askOne();
            }
        }
        if (wrong) {
            System.out.println(story);
        }
        return !wrong;
    }

    public static void main(String[] args) {
        int runs = args.length > 0 ? Integer.parseInt(args[0]) : 400;
        int from = args.length > 1 ? Integer.parseInt(args[1]) : 1;
        int bad = 0;
        for (int seed = from; seed < from + runs && bad < 3; seed++) {
            if (!new ModelTest(seed).run()) {
                System.out.println("run of seed " + seed + " answers otherwise than the model");
                bad++;
            }
        }
        System.out.println(runs + " runs against the model, " + bad + " of them wrong");
        if (bad > 0) {
            System.exit(1);
        }
    }
}
