import java.util.ArrayList;
import java.util.Arrays;
import java.util.HashMap;
import java.util.List;
import java.util.Map;

/**
 * The document once more, as plainly as it can be said and as slow as that is: rows of all
 * STONES are written out, TESTS are trees, IMAGES are copies. It is what ModelTest compares
 * the class with.
 */
final class Model {
    /** What a SUM or a TEST throws when it is BROKEN. */
    static final class Broken extends RuntimeException {
        private static final long serialVersionUID = 1L;
    }

    /** What reading throws at the FAULT. */
    static final class Fault extends RuntimeException {
        private static final long serialVersionUID = 1L;
        final int place;

        Fault(int place) {
            this.place = place;
        }
    }

    record Ask(int corner, int point, int stone, int plane, int face, int way, int load, int hand) {
    }

    interface Sum {
        long of(Ask ask);
    }

    interface Test {
        boolean of(Ask ask);
    }

    record Clause(String head, Sum sum, Test test, int number, int stone) {
        boolean holds(Ask ask) {
            try {
                return test == null || test.of(ask);
            } catch (Broken broken) {
                return false;
            }
        }
    }

    record Token(String word, int place) {
    }

    record Trial(int corner, int stone, int face, int way, int hand, int left, int depth, int load,
            boolean fell) {
    }

    static final class Stone {
        int name;
        int pieces;
        int uses;
        int point;
        int[][] plane = new int[3][4];

        Stone copy() {
            Stone s = new Stone();
            s.name = name;
            s.pieces = pieces;
            s.uses = uses;
            s.point = point;
            for (int f = 0; f < 3; f++) {
                s.plane[f] = plane[f].clone();
            }
            return s;
        }
    }

    static final class Kept {
        List<Stone> stones = new ArrayList<>();
        int[] known = new int[12];
        int[] slip = new int[4];
        int[] dust = new int[4];
        long s = 0;
        List<List<Clause>> texts = new ArrayList<>();
        int law = -1;
        List<Trial> trials = new ArrayList<>();
        int faces = 7;
        int ways = 15;
        int hands = 15;

        Kept copy() {
            Kept k = new Kept();
            for (Stone stone : stones) {
                k.stones.add(stone.copy());
            }
            k.known = known.clone();
            k.slip = slip.clone();
            k.dust = dust.clone();
            k.s = s;
            k.texts.addAll(texts);
            k.law = law;
            k.trials.addAll(trials);
            k.faces = faces;
            k.ways = ways;
            k.hands = hands;
            return k;
        }
    }

    Kept k = new Kept();
    final Kept[] images = new Kept[2];
    final List<Integer> tape = new ArrayList<>();
    int fault = -1;
    int status = 0;
    List<Integer> best = new ArrayList<>();

    private int refuse(int why) {
        status = why;
        return why;
    }

    private int fine(int answer) {
        status = 0;
        return answer;
    }

    private static boolean in(int x, int low, int high) {
        return low <= x && x <= high;
    }

    private int n() {
        return k.stones.size();
    }

    private boolean there(int stone) {
        return in(stone, 0, n() - 1);
    }

    int stone(int name, int pieces, int uses) {
        if (!in(name, 0, 11) || !in(pieces, 1, 100) || !in(uses, 0, 200)) {
            return refuse(-1);
        }
        if (n() == 12) {
            return refuse(-5);
        }
        Stone s = new Stone();
        s.name = name;
        s.pieces = pieces;
        s.uses = uses;
        k.stones.add(s);
        return fine(n() - 1);
    }

    int plane(int stone, int face, int way, int number) {
        if (!in(face, 0, 2) || !in(way, 0, 3) || !in(number, 0, 999)) {
            return refuse(-1);
        }
        if (!there(stone)) {
            return refuse(-2);
        }
        int was = k.stones.get(stone).plane[face][way];
        k.stones.get(stone).plane[face][way] = number;
        return fine(was);
    }

    int point(int stone, int number) {
        if (!in(number, 0, 999)) {
            return refuse(-1);
        }
        if (!there(stone)) {
            return refuse(-2);
        }
        int was = k.stones.get(stone).point;
        k.stones.get(stone).point = number;
        return fine(was);
    }

    int known(int name, int number) {
        if (!in(name, 0, 11) || !in(number, 0, 1000)) {
            return refuse(-1);
        }
        int was = k.known[name];
        k.known[name] = number;
        return fine(was);
    }

    int hand(int hand, int slip, int dust) {
        if (!in(hand, 0, 3) || !in(slip, 0, 100) || !in(dust, 0, 100)) {
            return refuse(-1);
        }
        k.slip[hand] = slip;
        k.dust[hand] = dust;
        return fine(0);
    }

    int seed(int seed) {
        if (!in(seed, 0, 1000000)) {
            return refuse(-1);
        }
        k.s = seed;
        return fine(0);
    }

    private int draw(int n) {
        k.s = (k.s * 1103 + 12345) % 1000003;
        return (int) (k.s % n);
    }

    int feed(int a, int b, int c, int d, int e) {
        if (tape.size() + 20 > 400) {
            return -1;
        }
        for (int four : new int[] {a, b, c, d, e}) {
            tape.add(four >>> 24);
            tape.add(four >>> 16 & 255);
            tape.add(four >>> 8 & 255);
            tape.add(four & 255);
        }
        return tape.size();
    }

    int end(int n) {
        if (!in(n, 0, tape.size())) {
            return -1;
        }
        while (tape.size() > n) {
            tape.remove(tape.size() - 1);
        }
        return n;
    }

    int text() {
        if (k.texts.size() == 10) {
            return refuse(-5);
        }
        StringBuilder written = new StringBuilder();
        for (int b : tape) {
            written.append((char) b);
        }
        tape.clear();
        try {
            k.texts.add(new Grammar(written.toString()).text());
            fault = -1;
            return fine(k.texts.size() - 1);
        } catch (Fault f) {
            fault = f.place;
            return refuse(-6);
        }
    }

    int fault() {
        return fault;
    }

    int law(int text) {
        if (!in(text, 0, k.texts.size() - 1)) {
            return refuse(-2);
        }
        int was = k.law;
        k.law = text;
        return fine(was);
    }

    private List<Clause> clauses(String head) {
        List<Clause> some = new ArrayList<>();
        if (k.law >= 0) {
            for (Clause c : k.texts.get(k.law)) {
                if (c.head.equals(head)) {
                    some.add(c);
                }
            }
        }
        return some;
    }

    private Ask ask(int corner, int stone, int face, int way, int load, int hand) {
        return new Ask(corner, k.stones.get(corner).point, stone,
                k.stones.get(stone).plane[face][way], face, way, load, hand);
    }

    private boolean any(String head, Ask ask) {
        boolean one = false;
        for (Clause c : clauses(head)) {
            one |= c.holds(ask);
        }
        return one;
    }

    private int last(String head, Ask ask) {
        long told = 0;
        for (Clause c : clauses(head)) {
            try {
                long sum = c.sum.of(ask);
                if (c.holds(ask)) {
                    told = sum;
                }
            } catch (Broken broken) {
                continue;
            }
        }
        return (int) Math.max(0, Math.min(255, told));
    }

    private boolean cut(int corner, int stone, int face, int way) {
        return any("cuts", ask(corner, stone, face, way, 1, 0));
    }

    int cuts(int corner, int stone, int face, int way) {
        if (!there(corner) || !there(stone) || !in(face, 0, 2) || !in(way, 0, 3)) {
            return -1;
        }
        return cut(corner, stone, face, way) ? 1 : 0;
    }

    int trial(int corner, int stone, int face, int way, int hand, int load) {
        if (!in(face, 0, 2) || !in(way, 0, 3) || !in(hand, 0, 3) || !in(load, 1, 100)) {
            return refuse(-1);
        }
        if (!there(corner) || !there(stone)) {
            return refuse(-2);
        }
        if (corner == stone || k.stones.get(corner).uses == 0) {
            return refuse(-3);
        }
        if (k.trials.size() == 120) {
            return refuse(-5);
        }
        k.stones.get(corner).uses--;
        Ask ask = ask(corner, stone, face, way, load, hand);
        boolean cut = any("cuts", ask);
        if (k.slip[hand] > 0) {
            cut ^= draw(100) < k.slip[hand];
        }
        int left = cut ? any("both", ask) ? 3 : 1 : 0;
        if (!cut && k.dust[hand] > 0 && draw(100) < k.dust[hand]) {
            left = 2;
        }
        k.trials.add(new Trial(corner, stone, face, way, hand, left, cut ? last("deep", ask) : 0,
                load, false));
        return fine(left);
    }

    int row() {
        if (tape.isEmpty()) {
            return refuse(-6);
        }
        int came = 0;
        while (tape.size() >= 7) {
            int[] b = new int[7];
            for (int i = 0; i < 7; i++) {
                b[i] = tape.remove(0);
            }
            if (there(b[0]) && there(b[1]) && b[0] != b[1] && b[2] < 3 && b[3] < 4 && b[4] < 4
                    && b[5] < 4 && k.trials.size() < 120) {
                k.trials.add(new Trial(b[0], b[1], b[2], b[3], b[4], b[5], b[6], 1, false));
                came++;
            }
        }
        tape.clear();
        return fine(came);
    }

    int of(int trial, int what) {
        if (!in(trial, 0, k.trials.size() - 1) || !in(what, 0, 8)) {
            return -1;
        }
        Trial t = k.trials.get(trial);
        return new int[] {t.corner, t.stone, t.face, t.way, t.hand, t.left, t.depth, t.load,
            t.fell ? 1 : 0}[what];
    }

    int found(int trial) {
        if (!in(trial, 0, k.trials.size() - 1)) {
            return refuse(-2);
        }
        Trial t = k.trials.get(trial);
        if (t.left != 2 || t.fell) {
            return refuse(-3);
        }
        k.trials.set(trial, new Trial(t.corner, t.stone, t.face, t.way, t.hand, t.left, t.depth,
                t.load, true));
        return fine(0);
    }

    private boolean counts(Trial t) {
        return !t.fell && (k.faces & 1 << t.face) != 0 && (k.ways & 1 << t.way) != 0
                && (k.hands & 1 << t.hand) != 0;
    }

    private boolean speaks(Trial t) {
        return counts(t) && (t.left == 1 || t.left == 2);
    }

    int view(int faces, int ways, int hands) {
        if (!in(faces, 1, 7) || !in(ways, 1, 15) || !in(hands, 1, 15)) {
            return refuse(-1);
        }
        k.faces = faces;
        k.ways = ways;
        k.hands = hands;
        int number = 0;
        for (Trial t : k.trials) {
            number += counts(t) ? 1 : 0;
        }
        return fine(number);
    }

    private int said(int a, int b) {
        int number = 0;
        for (Trial t : k.trials) {
            number += speaks(t) && t.corner == a && t.stone == b ? 1 : 0;
        }
        return number;
    }

    int says(int a, int b) {
        return !there(a) || !there(b) || a == b ? -1 : said(a, b);
    }

    /** The fewest steps from a to each STONE, at least one; 99 without. */
    private int[] steps(int a) {
        int[] far = new int[n()];
        Arrays.fill(far, 99);
        List<Integer> queue = new ArrayList<>();
        for (int b = 0; b < n(); b++) {
            if (said(a, b) > 0) {
                far[b] = 1;
                queue.add(b);
            }
        }
        for (int at = 0; at < queue.size(); at++) {
            int x = queue.get(at);
            for (int b = 0; b < n(); b++) {
                if (far[b] == 99 && said(x, b) > 0) {
                    far[b] = far[x] + 1;
                    queue.add(b);
                }
            }
        }
        return far;
    }

    private boolean isOver(int a, int b) {
        return steps(a)[b] < 99;
    }

    int over(int a, int b) {
        return !there(a) || !there(b) ? -1 : isOver(a, b) ? 1 : 0;
    }

    static List<List<Integer>> rows(List<Integer> of) {
        List<List<Integer>> all = new ArrayList<>();
        if (of.isEmpty()) {
            all.add(new ArrayList<>());
        }
        for (int first : of) {
            List<Integer> rest = new ArrayList<>(of);
            rest.remove((Integer) first);
            for (List<Integer> row : rows(rest)) {
                row.add(0, first);
                all.add(row);
            }
        }
        return all;
    }

    private List<Integer> numbers() {
        List<Integer> numbers = new ArrayList<>();
        for (int i = 0; i < n(); i++) {
            numbers.add(i);
        }
        return numbers;
    }

    private int against(List<Integer> order) {
        int number = 0;
        for (Trial t : k.trials) {
            number += isAgainst(t, order) ? 1 : 0;
        }
        return number;
    }

    private boolean isAgainst(Trial t, List<Integer> order) {
        return speaks(t) && order.contains(t.corner) && order.contains(t.stone)
                && order.indexOf(t.stone) < order.indexOf(t.corner);
    }

    int orders() {
        int number = 0;
        for (List<Integer> order : rows(numbers())) {
            number += against(order) == 0 ? 1 : 0;
        }
        return number;
    }

    int ahead(int a, int b) {
        if (!there(a) || !there(b) || a == b) {
            return -1;
        }
        int number = 0;
        for (List<Integer> order : rows(numbers())) {
            number += against(order) == 0 && order.indexOf(a) < order.indexOf(b) ? 1 : 0;
        }
        return number;
    }

    int ring(int stone) {
        return !there(stone) ? -1 : steps(stone)[stone] % 99;
    }

    int untried() {
        int number = 0;
        for (int a = 0; a < n(); a++) {
            for (int b = a + 1; b < n(); b++) {
                boolean tried = false;
                for (Trial t : k.trials) {
                    tried |= counts(t) && Math.min(t.corner, t.stone) == a
                            && Math.max(t.corner, t.stone) == b;
                }
                number += tried ? 0 : 1;
            }
        }
        return number;
    }

    int best() {
        int least = Integer.MAX_VALUE;
        // rows() writes them in their order, so the first of alike ones stays.
        for (List<Integer> order : rows(numbers())) {
            int number = against(order);
            if (number < least) {
                least = number;
                best = order;
            }
        }
        return least;
    }

    int place(int i) {
        return in(i, 0, best.size() - 1) ? best.get(i) : -1;
    }

    int drop(int i) {
        List<Integer> some = new ArrayList<>();
        for (int t = 0; t < k.trials.size(); t++) {
            if (isAgainst(k.trials.get(t), best)) {
                some.add(t);
            }
        }
        return in(i, 0, some.size() - 1) ? some.get(i) : -1;
    }

    int span(int stone, int what) {
        if (!there(stone) || !in(what, 0, 1)) {
            return -1;
        }
        int first = 0;
        int second = 1001;
        for (Clause c : clauses("rung")) {
            if (there(c.stone) && isOver(stone, c.stone)) {
                first = Math.max(first, c.number);
            }
            if (there(c.stone) && isOver(c.stone, stone)) {
                second = Math.min(second, c.number);
            }
        }
        return what == 0 ? first : second;
    }

    int settle(int stone) {
        if (!there(stone)) {
            return -1;
        }
        List<Clause> some = new ArrayList<>();
        for (Clause c : clauses("rung")) {
            if (there(c.stone) && c.stone != stone && c.number > span(stone, 0)
                    && c.number < span(stone, 1)) {
                some.add(c);
            }
        }
        some.sort((x, y) -> Integer.compare(x.number, y.number));
        for (int i = 0; i < some.size(); i++) {
            int behind = some.size() - 1 - i;
            if (behind == i || behind == i + 1) {
                return some.get(i).stone;
            }
        }
        return -1;
    }

    int fewest(int stones, int what) {
        int many = Integer.bitCount(stones);
        if (!in(what, 0, 1) || !in(many, 2, 5) || stones < 0 || stones >= 1 << n()) {
            return -1;
        }
        List<Integer> told = new ArrayList<>();
        for (int i = 0; i < n(); i++) {
            if ((stones & 1 << i) != 0) {
                told.add(i);
                if (isOver(i, i)) {
                    return -1;
                }
            }
        }
        boolean[][] over = new boolean[12][12];
        for (int a : told) {
            for (int b : told) {
                over[a][b] = isOver(a, b);
            }
        }
        List<List<Integer>> left = new ArrayList<>();
        for (List<Integer> row : rows(told)) {
            boolean fits = true;
            for (int i = 0; i < many; i++) {
                for (int j = i + 1; j < many; j++) {
                    fits &= !over[row.get(j)][row.get(i)];
                }
            }
            if (fits) {
                left.add(row);
            }
        }
        Map<List<List<Integer>>, Integer> done = new HashMap<>();
        int trials = worst(told, left, done);
        if (what == 0) {
            return trials;
        }
        for (int a : told) {
            for (int b : told) {
                if (a < b && trials > 0 && worstWith(told, left, a, b, done) == trials) {
                    return 12 * a + b;
                }
            }
        }
        return -1;
    }

    private static int worst(List<Integer> told, List<List<Integer>> left,
            Map<List<List<Integer>>, Integer> done) {
        if (left.size() == 1) {
            return 0;
        }
        Integer before = done.get(left);
        if (before != null) {
            return before;
        }
        int least = 99;
        for (int a : told) {
            for (int b : told) {
                if (a < b) {
                    least = Math.min(least, worstWith(told, left, a, b, done));
                }
            }
        }
        done.put(left, least);
        return least;
    }

    private static int worstWith(List<Integer> told, List<List<Integer>> left, int a, int b,
            Map<List<List<Integer>>, Integer> done) {
        List<List<Integer>> one = new ArrayList<>();
        List<List<Integer>> other = new ArrayList<>();
        for (List<Integer> row : left) {
            (row.indexOf(a) < row.indexOf(b) ? one : other).add(row);
        }
        if (one.isEmpty() || other.isEmpty()) {
            return 99;
        }
        return 1 + Math.max(worst(told, one, done), worst(told, other, done));
    }

    int choice(int many, int what) {
        if (!in(many, 1, 12) || !in(what, 0, 1) || many > best.size() || best.size() > n()) {
            return -1;
        }
        int most = -1;
        int bits = 0;
        for (List<Integer> places : places(0, many, best.size())) {
            int sum = 0;
            int these = 0;
            for (int i = 0; i < best.size(); i++) {
                these |= places.contains(i) ? 1 << best.get(i) : 0;
                for (int j = i + 1; j < best.size(); j++) {
                    boolean apart = false;
                    for (int p : places) {
                        apart |= i <= p && p <= j;
                    }
                    if (apart) {
                        sum += k.stones.get(best.get(i)).pieces * k.stones.get(best.get(j)).pieces;
                    }
                }
            }
            if (sum > most) {
                most = sum;
                bits = these;
            }
        }
        return what == 0 ? most : bits;
    }

    private static List<List<Integer>> places(int from, int many, int size) {
        List<List<Integer>> all = new ArrayList<>();
        if (many == 0) {
            all.add(new ArrayList<>());
            return all;
        }
        for (int first = from; first < size; first++) {
            for (List<Integer> rest : places(first + 1, many - 1, size)) {
                rest.add(0, first);
                all.add(rest);
            }
        }
        return all;
    }

    private List<Integer> byDents(int load) {
        List<Integer> order = numbers();
        order.sort((x, y) -> Integer.compare(last("dent", ask(x, x, 0, 0, load, 0)),
                last("dent", ask(y, y, 0, 0, load, 0))));
        return order;
    }

    private int groove(int stone) {
        int depths = 0;
        int loads = 0;
        for (Trial t : k.trials) {
            if (counts(t) && t.left == 1 && t.stone == stone) {
                depths += t.depth;
                loads += t.load;
            }
        }
        return loads == 0 ? Integer.MAX_VALUE : depths * 100 / loads;
    }

    private List<Integer> byGrooves() {
        List<Integer> order = numbers();
        order.sort((x, y) -> Integer.compare(groove(x), groove(y)));
        return order;
    }

    int dents(int load, int i) {
        return !in(load, 1, 100) || !in(i, 0, n() - 1) ? -1 : byDents(load).get(i);
    }

    int grooves(int i) {
        return !in(i, 0, n() - 1) ? -1 : byGrooves().get(i);
    }

    int otherwise(int load) {
        if (!in(load, 0, 100)) {
            return -1;
        }
        List<Integer> order = load == 0 ? byGrooves() : byDents(load);
        int pairs = 0;
        for (int a = 0; a < n(); a++) {
            for (int b = a + 1; b < n(); b++) {
                if (best.contains(a) && best.contains(b) && order.indexOf(a) < order.indexOf(b)
                        != best.indexOf(a) < best.indexOf(b)) {
                    pairs++;
                }
            }
        }
        return pairs;
    }

    int shapes(int corner, int marks) {
        if (!there(corner) || !in(marks, 0, 15)) {
            return -1;
        }
        int bits = 0;
        for (int stone = 0; stone < n(); stone++) {
            for (int face = 0; face < 3; face++) {
                boolean just = stone != corner;
                for (int way = 0; way < 4; way++) {
                    just &= cut(corner, stone, face, way) == ((marks & 1 << way) != 0);
                }
                bits |= just ? 1 << stone : 0;
            }
        }
        return bits;
    }

    int slips(int hand, int what) {
        if (!in(hand, 0, 3) || !in(what, 0, 1)) {
            return -1;
        }
        int number = 0;
        for (Trial t : k.trials) {
            number += t.hand == hand && (what == 0 ? speaks(t) : isAgainst(t, best)) ? 1 : 0;
        }
        return number;
    }

    private int cutSpots(int corner, int stone) {
        int number = 0;
        for (int face = 0; face < 3; face++) {
            for (int way = 0; way < 4; way++) {
                number += cut(corner, stone, face, way) ? 1 : 0;
            }
        }
        return number;
    }

    int glass(int right, int wrong, int what) {
        if (!there(right) || !there(wrong) || right == wrong || !in(what, 0, 1)) {
            return -1;
        }
        for (int harm = 0; harm <= 12; harm++) {
            for (int corner = 0; corner < n(); corner++) {
                if (corner != right && corner != wrong && cutSpots(corner, wrong) > 0
                        && cutSpots(corner, right) == harm) {
                    return what == 0 ? corner : harm;
                }
            }
        }
        return -1;
    }

    int called(int what) {
        if (!in(what, 0, 2) || !in(n(), 1, 8)) {
            return -1;
        }
        int number = 0;
        int all = (1 << n()) - 1;
        int some = 0;
        for (List<Integer> row : rows(numbers())) {
            boolean fits = true;
            for (Trial t : k.trials) {
                fits &= !speaks(t) || k.known[k.stones.get(row.get(t.corner)).name]
                        > k.known[k.stones.get(row.get(t.stone)).name];
            }
            if (fits) {
                number++;
                int wrong = 0;
                for (int i = 0; i < n(); i++) {
                    wrong |= k.stones.get(row.get(i)).name != k.stones.get(i).name ? 1 << i : 0;
                }
                all &= wrong;
                some |= wrong;
            }
        }
        return what == 0 ? number : number == 0 ? 0 : what == 1 ? all : some;
    }

    int lose() {
        int number = 0;
        for (Trial t : k.trials) {
            number += speaks(t) && !(k.known[k.stones.get(t.corner).name]
                    > k.known[k.stones.get(t.stone).name]) ? 1 : 0;
        }
        return number;
    }

    int image(int i) {
        if (!in(i, 0, 1)) {
            return refuse(-1);
        }
        images[i] = k.copy();
        return fine(0);
    }

    int back(int i) {
        if (!in(i, 0, 1)) {
            return refuse(-1);
        }
        if (images[i] == null) {
            return refuse(-2);
        }
        k = images[i].copy();
        return fine(0);
    }

    int count(int what) {
        int uses = 0;
        for (Stone s : k.stones) {
            uses += s.uses;
        }
        return in(what, 0, 4)
                ? new int[] {n(), k.texts.size(), k.trials.size(), uses, tape.size()}[what] : -1;
    }

    int status() {
        return status;
    }

    /** The grammar, as trees. */
    static final class Grammar {
        private final List<Token> tokens = new ArrayList<>();
        private int at = 0;
        private int parts = 0;
        private int open = 0;

        Grammar(String written) {
            java.util.regex.Matcher m = java.util.regex.Pattern
                    .compile("[a-z]+|[0-9]+|[^ ]", java.util.regex.Pattern.DOTALL).matcher(written);
            while (m.find()) {
                tokens.add(new Token(m.group(), m.start()));
            }
            tokens.add(new Token("", written.length()));
        }

        private String word() {
            return tokens.get(at).word;
        }

        private Fault fault() {
            return new Fault(tokens.get(at).place);
        }

        private void want(String word) {
            if (!word().equals(word)) {
                throw fault();
            }
            at++;
        }

        private int number(int most) {
            if (!word().matches("[0-9]+")
                    || new java.math.BigInteger(word()).compareTo(
                            java.math.BigInteger.valueOf(most)) > 0) {
                throw fault();
            }
            return Integer.parseInt(tokens.get(at++).word);
        }

        List<Clause> text() {
            List<Clause> all = new ArrayList<>();
            all.add(clause());
            while (word().equals(";")) {
                at++;
                if (all.size() == 12) {
                    throw fault();
                }
                all.add(clause());
            }
            want("");
            return all;
        }

        private Clause clause() {
            String head = word();
            if (!List.of("rung", "cuts", "both", "deep", "dent").contains(head)) {
                throw fault();
            }
            at++;
            if (head.equals("rung")) {
                int number = number(1000);
                want("is");
                return new Clause(head, null, null, number, number(11));
            }
            Sum sum = head.equals("deep") || head.equals("dent") ? sum() : null;
            Test test = null;
            if (word().equals("if")) {
                at++;
                test = test();
            }
            return new Clause(head, sum, test, 0, 0);
        }

        private Test test() {
            Test a = both();
            while (word().equals("or")) {
                at++;
                Test x = a;
                Test y = both();
                a = ask -> x.of(ask) || y.of(ask);
            }
            return a;
        }

        private Test both() {
            Test a = plain();
            while (word().equals("and")) {
                at++;
                Test x = a;
                Test y = plain();
                a = ask -> x.of(ask) && y.of(ask);
            }
            return a;
        }

        private Test plain() {
            if (word().equals("not")) {
                at++;
                Test x = plain();
                return ask -> !x.of(ask);
            }
            if (word().equals("(")) {
                enter();
                Test x = test();
                want(")");
                open--;
                return x;
            }
            Sum x = sum();
            String sign = word();
            if (!List.of("<", ">", "=").contains(sign)) {
                throw fault();
            }
            at++;
            Sum y = sum();
            return ask -> {
                int compared = Long.compare(x.of(ask), y.of(ask));
                return sign.equals("<") ? compared < 0 : sign.equals(">") ? compared > 0
                        : compared == 0;
            };
        }

        private void enter() {
            if (open == 8) {
                throw fault();
            }
            open++;
            at++;
        }

        private Sum sum() {
            Sum a = term();
            while (word().equals("+") || word().equals("-")) {
                a = joined(word(), a);
            }
            return a;
        }

        private Sum term() {
            Sum a = part();
            while (word().equals("*") || word().equals("/")) {
                a = joined(word(), a);
            }
            return a;
        }

        private Sum joined(String sign, Sum a) {
            at++;
            Sum b = sign.equals("+") || sign.equals("-") ? term() : part();
            return ask -> {
                long x = a.of(ask);
                long y = b.of(ask);
                if (sign.equals("/") && y == 0) {
                    throw new Broken();
                }
                long z = sign.equals("+") ? x + y : sign.equals("-") ? x - y
                        : sign.equals("*") ? x * y : x / y;
                if (Math.abs(z) > 1000000000) {
                    throw new Broken();
                }
                return z;
            };
        }

        private Sum part() {
            String word = word();
            if (word.equals("[")) {
                enter();
                Sum x = sum();
                want("]");
                open--;
                return x;
            }
            boolean isWord = List.of("point", "plane", "load", "hand", "face", "way", "corner",
                    "stone").contains(word);
            if (parts == 50) {
                throw fault();
            }
            parts++;
            if (isWord) {
                at++;
                return ask -> switch (word) {
                    case "point" -> ask.point;
                    case "plane" -> ask.plane;
                    case "load" -> ask.load;
                    case "hand" -> ask.hand;
                    case "face" -> ask.face;
                    case "way" -> ask.way;
                    case "corner" -> ask.corner;
                    default -> ask.stone;
                };
            }
            int number = number(100000);
            return ask -> number;
        }
    }
}
