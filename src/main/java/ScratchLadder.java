import java.util.Arrays;

/**
 * A ladder of stones by what scratches what. The words in capitals are those of the document;
 * it says what each call answers, by numbered promises.
 */
public final class ScratchLadder {
    /** There is none. */
    public static final int NONE = -1;

    private static final int BAD_NUMBER = -1;
    private static final int NOT_THERE = -2;
    private static final int CANNOT_BE = -3;
    private static final int NO_ROOM = -5;
    private static final int UNREADABLE = -6;

    private static final int MAX_STONES = 12;
    private static final int MAX_TEXTS = 10;
    private static final int MAX_TRIALS = 120;
    private static final int MAX_CLAUSES = 12;
    private static final int MAX_PARTS = 50;
    private static final int MAX_BRACKETS = 8;
    private static final int MAX_TOLD = 5;
    private static final int MAX_CALLED = 8;
    private static final int TAPE_BYTES = 400;
    private static final int NAMES = 12;
    private static final int FACES = 3;
    private static final int WAYS = 4;
    private static final int HANDS = 4;
    private static final int SPOTS = FACES * WAYS;
    private static final int IMAGES = 2;
    private static final int HIGHEST_LOAD = 100;
    private static final int BEYOND_RUNGS = 1001;
    /** Greater than any number that is compared with it. */
    private static final int BEYOND_ALL = 1 << 30;

    private static final int NOTHING = 0;
    private static final int GROOVE = 1;
    private static final int POWDER = 2;
    private static final int BOTH = 3;

    /** The columns of a TRIAL, numbered as the document numbers what is asked of one. */
    private static final int CORNER = 0;
    private static final int STONE = 1;
    private static final int FACE = 2;
    private static final int WAY = 3;
    private static final int HAND = 4;
    private static final int LEFT = 5;
    private static final int DEPTH = 6;
    private static final int LOAD = 7;
    private static final int FELL_OUT = 8;
    private static final int COLUMNS = 9;
    private static final int ROW_BYTES = 7;

    private static final int CLAUSE_CUTS = 0;
    private static final int CLAUSE_BOTH = 1;
    private static final int CLAUSE_DEEP = 2;
    private static final int CLAUSE_DENT = 3;
    private static final int CLAUSE_RUNG = 4;

    private final Bench now = new Bench();
    private final Bench[] images = {new Bench(), new Bench()};
    private final boolean[] imageKept = new boolean[IMAGES];
    private final Tape tape = new Tape();
    private final Reader reader = new Reader(tape);
    private final Question question = new Question(now);
    private final Ties ties = new Ties(now);
    private final Orders ladder = new Orders(now);
    private final Lineup lineup = new Lineup(now, question);
    private final Rungs rungs = new Rungs(now, ties);
    private final Sorter sorter = new Sorter();
    private final Naming naming = new Naming(now, ties);
    private final int[] newTrial = new int[COLUMNS];
    private int latestFault = NONE;
    private int latestRefusal = 0;

    /** No STONES, TEXTS, TRIALS. */
    public ScratchLadder() {
    }

    /** A STONE: its number. */
    public int stone(int name, int pieces, int uses) {
        if (!within(name, 0, NAMES - 1) || !within(pieces, 1, 100) || !within(uses, 0, 200)) {
            return refuse(BAD_NUMBER);
        }
        if (now.stones >= MAX_STONES) {
            return refuse(NO_ROOM);
        }
        return accept(now.addStone(name, pieces, uses));
    }

    /** PLANE of a STONE's FACE and WAY: what it was. */
    public int plane(int stone, int face, int way, int number) {
        if (!isSpot(face, way) || !within(number, 0, 999)) {
            return refuse(BAD_NUMBER);
        }
        if (!now.hasStone(stone)) {
            return refuse(NOT_THERE);
        }
        return accept(exchange(now.planes, Bench.spotOf(stone, face, way), number));
    }

    /** POINT of a STONE: what it was. */
    public int point(int stone, int number) {
        if (!within(number, 0, 999)) {
            return refuse(BAD_NUMBER);
        }
        if (!now.hasStone(stone)) {
            return refuse(NOT_THERE);
        }
        return accept(exchange(now.points, stone, number));
    }

    /** A NAME is KNOWN as a number: as what it was. */
    public int known(int name, int number) {
        if (!within(name, 0, NAMES - 1) || !within(number, 0, 1000)) {
            return refuse(BAD_NUMBER);
        }
        return accept(exchange(now.knownAs, name, number));
    }

    /** SLIP and DUST of a HAND: 0. */
    public int hand(int hand, int slip, int dust) {
        if (!isHand(hand) || !within(slip, 0, 100) || !within(dust, 0, 100)) {
            return refuse(BAD_NUMBER);
        }
        now.slipOf[hand] = slip;
        now.dustOf[hand] = dust;
        return accept(0);
    }

    /** DRAWS begin anew with a SEED: 0. */
    public int seed(int seed) {
        if (!within(seed, 0, 1000000)) {
            return refuse(BAD_NUMBER);
        }
        now.drawn = seed;
        return accept(0);
    }

    /** Twenty bytes come behind the TAPE: how many it has. */
    public int feed(int a, int b, int c, int d, int e) {
        if (tape.length + 20 > TAPE_BYTES) {
            return NONE;
        }
        tape.append(a);
        tape.append(b);
        tape.append(c);
        tape.append(d);
        tape.append(e);
        return tape.length;
    }

    /** The TAPE has its first n bytes alone: n. */
    public int end(int n) {
        if (!within(n, 0, tape.length)) {
            return NONE;
        }
        tape.length = n;
        return n;
    }

    /** The TAPE becomes a TEXT: its number. */
    public int text() {
        if (now.texts >= MAX_TEXTS) {
            return refuse(NO_ROOM);
        }
        Text read = reader.read();
        tape.length = 0;
        if (read == null) {
            latestFault = reader.placeReached();
            return refuse(UNREADABLE);
        }
        latestFault = NONE;
        now.written[now.texts] = read;
        now.texts++;
        return accept(now.texts - 1);
    }

    /** FAULT of the latest text() that read one: its place. */
    public int fault() {
        return latestFault;
    }

    /** A TEXT is the LAW: which was. */
    public int law(int text) {
        if (!within(text, 0, now.texts - 1)) {
            return refuse(NOT_THERE);
        }
        int was = now.law;
        now.law = text;
        return accept(was);
    }

    /** Whether a corner CUTS a STONE's FACE along a WAY by the LAW. */
    public int cuts(int corner, int stone, int face, int way) {
        if (!now.hasStone(corner) || !now.hasStone(stone) || !isSpot(face, way)) {
            return NONE;
        }
        return question.isCut(corner, stone, face, way) ? 1 : 0;
    }

    /** A TRIAL is made: what it left. */
    public int trial(int corner, int stone, int face, int way, int hand, int load) {
        if (!isSpot(face, way) || !isHand(hand) || !within(load, 1, HIGHEST_LOAD)) {
            return refuse(BAD_NUMBER);
        }
        if (!now.hasStone(corner) || !now.hasStone(stone)) {
            return refuse(NOT_THERE);
        }
        if (corner == stone || now.uses[corner] < 1) {
            return refuse(CANNOT_BE);
        }
        if (now.trials >= MAX_TRIALS) {
            return refuse(NO_ROOM);
        }
        now.uses[corner]--;
        question.ask(corner, stone, face, way, hand, load);
        int left = whatIsLeftBy(hand);
        newTrial[CORNER] = corner;
        newTrial[STONE] = stone;
        newTrial[FACE] = face;
        newTrial[WAY] = way;
        newTrial[HAND] = hand;
        newTrial[LEFT] = left;
        newTrial[DEPTH] = left == GROOVE || left == BOTH ? question.lastTold(CLAUSE_DEEP) : 0;
        newTrial[LOAD] = load;
        newTrial[FELL_OUT] = 0;
        now.addTrial(newTrial);
        return accept(left);
    }

    /** A ROW of TRIALS: how many came. */
    public int row() {
        if (tape.length == 0) {
            return refuse(UNREADABLE);
        }
        int came = 0;
        for (int at = 0; at + ROW_BYTES <= tape.length; at += ROW_BYTES) {
            System.arraycopy(tape.bytes, at, newTrial, 0, ROW_BYTES);
            newTrial[LOAD] = 1;
            newTrial[FELL_OUT] = 0;
            if (now.trials < MAX_TRIALS && now.canBeTrial(newTrial)) {
                now.addTrial(newTrial);
                came++;
            }
        }
        tape.length = 0;
        return accept(came);
    }

    /** What is asked of a TRIAL. */
    public int of(int trial, int what) {
        if (!now.hasTrial(trial) || !within(what, 0, COLUMNS - 1)) {
            return NONE;
        }
        return now.column(trial, what);
    }

    /** POWDER is FOUND: 0. */
    public int found(int trial) {
        if (!now.hasTrial(trial)) {
            return refuse(NOT_THERE);
        }
        if (now.column(trial, LEFT) != POWDER || now.column(trial, FELL_OUT) != 0) {
            return refuse(CANNOT_BE);
        }
        now.letFallOut(trial);
        return accept(0);
    }

    /** VIEW: how many TRIALS COUNT then. */
    public int view(int faces, int ways, int hands) {
        if (!within(faces, 1, 7) || !within(ways, 1, 15) || !within(hands, 1, 15)) {
            return refuse(BAD_NUMBER);
        }
        now.facesSeen = faces;
        now.waysSeen = ways;
        now.handsSeen = hands;
        int counting = 0;
        for (int trial = 0; trial < now.trials; trial++) {
            if (now.counts(trial)) {
                counting++;
            }
        }
        return accept(counting);
    }

    /** How many TRIALS SAY that one STONE is above another one. */
    public int says(int a, int b) {
        if (!areTwo(a, b)) {
            return NONE;
        }
        ties.look();
        return ties.said[a * MAX_STONES + b];
    }

    /** Whether a is OVER b. */
    public int over(int a, int b) {
        if (!now.hasStone(a) || !now.hasStone(b)) {
            return NONE;
        }
        ties.look();
        return ties.isOver(a, b) ? 1 : 0;
    }

    /** How many ORDERS FIT. */
    public int orders() {
        ties.look();
        return ladder.fitting(ties.above);
    }

    /** In how many ORDERS that FIT a stands ahead of another one. */
    public int ahead(int a, int b) {
        if (!areTwo(a, b)) {
            return NONE;
        }
        ties.look();
        // Kept for this call alone: the next look() clears it.
        ties.above[b] |= 1 << a;
        return ladder.fitting(ties.above);
    }

    /** RING of a STONE. */
    public int ring(int stone) {
        if (!now.hasStone(stone)) {
            return NONE;
        }
        ties.look();
        return ties.shortestRing(stone);
    }

    /** How many pairs of STONES no TRIAL that COUNTS was made of. */
    public int untried() {
        ties.look();
        int halves = 0;
        for (int stone = 0; stone < now.stones; stone++) {
            halves += now.stones - 1 - Integer.bitCount(ties.tried[stone]);
        }
        return halves / 2;
    }

    /** BEST, kept as the latest: how many are AGAINST it. */
    public int best() {
        ties.look();
        return ladder.findBest(ties.said);
    }

    /** The STONE at a place in the latest BEST. */
    public int place(int i) {
        return within(i, 0, ladder.size - 1) ? ladder.best[i] : NONE;
    }

    /** The i-th TRIAL that COUNTS now and is AGAINST the latest BEST. */
    public int drop(int i) {
        int before = 0;
        for (int trial = 0; trial < now.trials; trial++) {
            if (now.speaks(trial) && ladder.isAgainst(trial)) {
                if (before == i) {
                    return trial;
                }
                before++;
            }
        }
        return NONE;
    }

    /** SPAN of a STONE: the first number, the second. */
    public int span(int stone, int what) {
        if (!now.hasStone(stone) || !within(what, 0, 1)) {
            return NONE;
        }
        ties.look();
        return what == 0 ? rungs.numberBelow(stone) : rungs.numberAbove(stone);
    }

    /** SETTLE: the RUNG's STONE. */
    public int settle(int stone) {
        if (!now.hasStone(stone)) {
            return NONE;
        }
        ties.look();
        return rungs.middleFor(stone);
    }

    /** FEWEST for STONES as bits: how many trials, or the first of them. */
    public int fewest(int stones, int what) {
        if (!within(what, 0, 1) || !within(stones, 0, (1 << now.stones) - 1)
                || !within(Integer.bitCount(stones), 2, MAX_TOLD)) {
            return NONE;
        }
        ties.look();
        if (!sorter.take(stones, ties)) {
            return NONE;
        }
        int trials = sorter.trialsNeeded();
        return what == 0 ? trials : sorter.firstTrial();
    }

    /** CHOICE: the sum, or the STONES as bits. */
    public int choice(int k, int what) {
        if (!within(what, 0, 1) || !within(k, 1, ladder.size) || ladder.size > now.stones) {
            return NONE;
        }
        int chosen = ladder.chosenPlaces(k);
        return what == 0 ? ladder.piecesToldApart(chosen) : ladder.stonesAt(chosen);
    }

    /** The i-th STONE by DENTS under a load. */
    public int dents(int load, int i) {
        if (!within(load, 1, HIGHEST_LOAD) || !within(i, 0, now.stones - 1)) {
            return NONE;
        }
        lineup.byDents(load);
        return lineup.stoneAt[i];
    }

    /** The i-th STONE by GROOVES. */
    public int grooves(int i) {
        if (!within(i, 0, now.stones - 1)) {
            return NONE;
        }
        lineup.byGrooves();
        return lineup.stoneAt[i];
    }

    /** OTHERWISE by DENTS under a load, or by GROOVES (load 0). */
    public int otherwise(int load) {
        if (!within(load, 0, HIGHEST_LOAD)) {
            return NONE;
        }
        if (load == 0) {
            lineup.byGrooves();
        } else {
            lineup.byDents(load);
        }
        return lineup.pairsOtherwise(ladder);
    }

    /** SHAPES: STONES as bits. */
    public int shapes(int corner, int marks) {
        if (!now.hasStone(corner) || !within(marks, 0, (1 << WAYS) - 1)) {
            return NONE;
        }
        int bits = 0;
        for (int stone = 0; stone < now.stones; stone++) {
            if (stone != corner && question.hasShape(corner, stone, marks)) {
                bits |= 1 << stone;
            }
        }
        return bits;
    }

    /** How many TRIALS of a HAND that COUNT SAY something, or are AGAINST the latest BEST. */
    public int slips(int hand, int what) {
        if (!isHand(hand) || !within(what, 0, 1)) {
            return NONE;
        }
        int number = 0;
        for (int trial = 0; trial < now.trials; trial++) {
            if (now.column(trial, HAND) == hand && now.speaks(trial)
                    && (what == 0 || ladder.isAgainst(trial))) {
                number++;
            }
        }
        return number;
    }

    /** GLASS: the corner's STONE, or on how many FACES and WAYS it CUTS the true one. */
    public int glass(int right, int wrong, int what) {
        if (!areTwo(right, wrong) || !within(what, 0, 1)) {
            return NONE;
        }
        int least = SPOTS + 1;
        int finder = NONE;
        for (int corner = 0; corner < now.stones; corner++) {
            if (corner == right || corner == wrong || question.spotsCut(corner, wrong) == 0) {
                continue;
            }
            int harm = question.spotsCut(corner, right);
            if (harm < least) {
                least = harm;
                finder = corner;
            }
        }
        return finder == NONE || what == 0 ? finder : least;
    }

    /** CALLED: how many rows, STONES that are WRONG in all, in some of them, as bits. */
    public int called(int what) {
        if (!within(what, 0, 2) || !within(now.stones, 1, MAX_CALLED)) {
            return NONE;
        }
        ties.look();
        if (what == 0) {
            return naming.allRows();
        }
        return what == 1 ? naming.wrongInAll() : naming.wrongInSome();
    }

    /** How many TRIALS SAY otherwise than KNOWN numbers of NAMES do. */
    public int lose() {
        int number = 0;
        for (int trial = 0; trial < now.trials; trial++) {
            if (now.speaks(trial) && now.knownNumber(now.column(trial, CORNER))
                    <= now.knownNumber(now.column(trial, STONE))) {
                number++;
            }
        }
        return number;
    }

    /** IMAGE k is kept: 0. */
    public int image(int k) {
        if (!within(k, 0, IMAGES - 1)) {
            return refuse(BAD_NUMBER);
        }
        images[k].copyFrom(now);
        imageKept[k] = true;
        return accept(0);
    }

    /** BACK to IMAGE k: 0. */
    public int back(int k) {
        if (!within(k, 0, IMAGES - 1)) {
            return refuse(BAD_NUMBER);
        }
        if (!imageKept[k]) {
            return refuse(NOT_THERE);
        }
        now.copyFrom(images[k]);
        return accept(0);
    }

    /** How many there are of what is asked for. */
    public int count(int what) {
        switch (what) {
            case 0:
                return now.stones;
            case 1:
                return now.texts;
            case 2:
                return now.trials;
            case 3:
                return now.usesLeft();
            case 4:
                return tape.length;
            default:
                return NONE;
        }
    }

    /** What the latest call that can be REFUSED was REFUSED by. */
    public int status() {
        return latestRefusal;
    }

    private int refuse(int why) {
        latestRefusal = why;
        return why;
    }

    private int accept(int answer) {
        latestRefusal = 0;
        return answer;
    }

    private int whatIsLeftBy(int hand) {
        boolean isCut = question.holds(CLAUSE_CUTS);
        if (now.drawsBelow(now.slipOf[hand])) {
            isCut = !isCut;
        }
        if (isCut) {
            return question.holds(CLAUSE_BOTH) ? BOTH : GROOVE;
        }
        return now.drawsBelow(now.dustOf[hand]) ? POWDER : NOTHING;
    }

    private boolean areTwo(int a, int b) {
        return now.hasStone(a) && now.hasStone(b) && a != b;
    }

    private static int exchange(int[] numbers, int at, int number) {
        int was = numbers[at];
        numbers[at] = number;
        return was;
    }

    private static boolean isSpot(int face, int way) {
        return within(face, 0, FACES - 1) && within(way, 0, WAYS - 1);
    }

    private static boolean isHand(int hand) {
        return within(hand, 0, HANDS - 1);
    }

    private static boolean within(int number, int least, int greatest) {
        return number >= least && number <= greatest;
    }

    /** All that an IMAGE keeps. */
    private static final class Bench {
        int stones = 0;
        final int[] names = new int[MAX_STONES];
        final int[] pieces = new int[MAX_STONES];
        final int[] uses = new int[MAX_STONES];
        final int[] points = new int[MAX_STONES];
        final int[] planes = new int[MAX_STONES * SPOTS];
        final int[] knownAs = new int[NAMES];
        final int[] slipOf = new int[HANDS];
        final int[] dustOf = new int[HANDS];
        int drawn = 0;
        int law = NONE;
        int texts = 0;
        final Text[] written = new Text[MAX_TEXTS];
        private final Text noLaw = new Text(new int[0], new int[0]);
        int trials = 0;
        final int[] columns = new int[MAX_TRIALS * COLUMNS];
        int facesSeen = (1 << FACES) - 1;
        int waysSeen = (1 << WAYS) - 1;
        int handsSeen = (1 << HANDS) - 1;

        void copyFrom(Bench other) {
            stones = other.stones;
            copyRow(other.names, names);
            copyRow(other.pieces, pieces);
            copyRow(other.uses, uses);
            copyRow(other.points, points);
            copyRow(other.planes, planes);
            copyRow(other.knownAs, knownAs);
            copyRow(other.slipOf, slipOf);
            copyRow(other.dustOf, dustOf);
            drawn = other.drawn;
            law = other.law;
            texts = other.texts;
            for (int text = 0; text < MAX_TEXTS; text++) {
                written[text] = other.written[text];
            }
            trials = other.trials;
            copyRow(other.columns, columns);
            facesSeen = other.facesSeen;
            waysSeen = other.waysSeen;
            handsSeen = other.handsSeen;
        }

        private static void copyRow(int[] from, int[] to) {
            System.arraycopy(from, 0, to, 0, Math.min(from.length, to.length));
        }

        /** POINT and PLANES are 0 where no STONE is: copyFrom() takes whole rows. */
        int addStone(int name, int piecesOfIt, int usesLeft) {
            int stone = stones;
            names[stone] = name;
            pieces[stone] = piecesOfIt;
            uses[stone] = usesLeft;
            stones++;
            return stone;
        }

        boolean hasStone(int stone) {
            return within(stone, 0, stones - 1);
        }

        static int spotOf(int stone, int face, int way) {
            return stone * SPOTS + face * WAYS + way;
        }

        int usesLeft() {
            int sum = 0;
            for (int stone = 0; stone < stones; stone++) {
                sum += uses[stone];
            }
            return sum;
        }

        int knownNumber(int stone) {
            return knownAs[names[stone]];
        }

        /** Whether a DRAW of 100 is below a number; for 0 nothing is drawn. */
        boolean drawsBelow(int number) {
            if (number < 1) {
                return false;
            }
            drawn = (drawn * 1103 + 12345) % 1000003;
            return drawn % 100 < number;
        }

        /** The LAW; without one a TEXT of no CLAUSES, so that nothing HOLDS and there are no rungs. */
        Text lawText() {
            Text told = within(law, 0, texts - 1) ? written[law] : null;
            return told == null ? noLaw : told;
        }

        boolean canBeTrial(int[] told) {
            return hasStone(told[CORNER]) && hasStone(told[STONE]) && told[CORNER] != told[STONE]
                    && isSpot(told[FACE], told[WAY]) && isHand(told[HAND])
                    && within(told[LEFT], NOTHING, BOTH);
        }

        void addTrial(int[] told) {
            System.arraycopy(told, 0, columns, trials * COLUMNS, COLUMNS);
            trials++;
        }

        boolean hasTrial(int trial) {
            return within(trial, 0, trials - 1);
        }

        int column(int trial, int what) {
            return columns[trial * COLUMNS + what];
        }

        void letFallOut(int trial) {
            columns[trial * COLUMNS + FELL_OUT] = 1;
        }

        boolean counts(int trial) {
            return column(trial, FELL_OUT) == 0
                    && (facesSeen >> column(trial, FACE) & 1) == 1
                    && (waysSeen >> column(trial, WAY) & 1) == 1
                    && (handsSeen >> column(trial, HAND) & 1) == 1;
        }

        /** Whether a TRIAL COUNTS and SAYS something. */
        boolean speaks(int trial) {
            int left = column(trial, LEFT);
            return (left == GROOVE || left == POWDER) && counts(trial);
        }
    }

    /** The TAPE. */
    private static final class Tape {
        final int[] bytes = new int[TAPE_BYTES];
        int length = 0;

        /** The caller has looked whether there is room. */
        void append(int four) {
            for (int shift = 24; shift >= 0; shift -= 8) {
                bytes[length] = four >> shift & 255;
                length++;
            }
        }
    }

    /** A TEXT that was read. Its SUMS and TESTS are steps for a stack; it never changes. */
    private static final class Text {
        /** Of a CLAUSE: its kind; where its SUM begins, where its TEST does, where that ends. */
        static final int KIND = 0;
        static final int SUM_AT = 1;
        static final int TEST_AT = 2;
        static final int ENDS_AT = 3;
        /** Of a "rung": its number, its STONE. */
        static final int RUNG_NUMBER = 1;
        static final int RUNG_STONE = 2;
        static final int WIDTH = 4;

        /** The kinds of steps. NUMBER and WORD put one on the stack. */
        static final int NUMBER = 0;
        static final int WORD = 1;
        static final int ADD = 2;
        static final int SUBTRACT = 3;
        static final int MULTIPLY = 4;
        static final int DIVIDE = 5;
        static final int LESS = 6;
        static final int GREATER = 7;
        static final int EQUAL = 8;
        static final int NOT = 9;
        static final int OR_PASS = 10;
        static final int AND_PASS = 11;

        static final int POINT_WORD = 0;
        static final int PLANE_WORD = 1;
        static final int LOAD_WORD = 2;
        static final int HAND_WORD = 3;
        static final int FACE_WORD = 4;
        static final int WAY_WORD = 5;
        static final int CORNER_WORD = 6;
        static final int STONE_WORD = 7;
        static final int WORDS = 8;

        private final int[] clauses;
        /** Step i has its kind at 2 * i and its argument behind it. */
        final int[] steps;

        Text(int[] clauses, int[] steps) {
            this.clauses = clauses;
            this.steps = steps;
        }

        int clauseCount() {
            return clauses.length / WIDTH;
        }

        int clause(int number, int what) {
            int at = number * WIDTH + what;
            return at >= 0 && at < clauses.length ? clauses[at] : NONE;
        }
    }

    /** Reads the TAPE as a TEXT; the TOKEN at which it gives up is the FAULT. */
    private static final class Reader {
        private static final int AT_END = 0;
        private static final int LETTERS = 1;
        private static final int DIGITS = 2;
        private static final int SIGN = 3;
        private static final int TOO_GREAT = 1000000;

        private final Tape tape;
        private final int[] clauses = new int[MAX_CLAUSES * Text.WIDTH];
        private int clauseCount;
        /** A step comes from at least one byte of its own, so there are never more than bytes. */
        private final int[] steps = new int[2 * TAPE_BYTES];
        private int stepCount;
        private int parts;
        private int brackets;
        private int tokenKind;
        private int tokenStart;
        private int tokenEnd;
        private int tokenNumber;

        Reader(Tape tape) {
            this.tape = tape;
        }

        /** The TEXT; null if there is a FAULT. */
        Text read() {
            clauseCount = 0;
            stepCount = 0;
            parts = 0;
            brackets = 0;
            tokenEnd = 0;
            advance();
            for (int clause = 0; clause < MAX_CLAUSES; clause++) {
                if (!readClause()) {
                    return null;
                }
                if (tokenKind == AT_END) {
                    return new Text(Arrays.copyOf(clauses, clauseCount * Text.WIDTH),
                            Arrays.copyOf(steps, 2 * stepCount));
                }
                if (!passSign(';')) {
                    return null;
                }
            }
            return null;
        }

        /** Where the TOKEN begins that was looked at last. */
        int placeReached() {
            return tokenStart;
        }

        private void advance() {
            int at = tokenEnd;
            while (at < tape.length && tape.bytes[at] == ' ') {
                at++;
            }
            tokenStart = at;
            tokenNumber = 0;
            tokenKind = kindAt(at);
            boolean goesOn = tokenKind != AT_END;
            while (goesOn && at < tape.length) {
                if (tokenKind == DIGITS) {
                    tokenNumber = Math.min(tokenNumber * 10 + tape.bytes[at] - '0', TOO_GREAT);
                }
                at++;
                goesOn = tokenKind != SIGN && kindAt(at) == tokenKind;
            }
            tokenEnd = at;
        }

        private int kindAt(int at) {
            if (at >= tape.length) {
                return AT_END;
            }
            int sign = tape.bytes[at];
            if (sign >= 'a' && sign <= 'z') {
                return LETTERS;
            }
            return sign >= '0' && sign <= '9' ? DIGITS : SIGN;
        }

        private boolean isWord(String word) {
            if (tokenKind != LETTERS || tokenEnd - tokenStart != word.length()) {
                return false;
            }
            for (int i = 0; i < word.length(); i++) {
                if (tape.bytes[tokenStart + i] != word.charAt(i)) {
                    return false;
                }
            }
            return true;
        }

        private boolean passWord(String word) {
            boolean isIt = isWord(word);
            if (isIt) {
                advance();
            }
            return isIt;
        }

        private boolean isSign(char sign) {
            return tokenKind == SIGN && tape.bytes[tokenStart] == sign;
        }

        private boolean passSign(char sign) {
            boolean isIt = isSign(sign);
            if (isIt) {
                advance();
            }
            return isIt;
        }

        private boolean isNumber(int greatest) {
            return tokenKind == DIGITS && tokenNumber <= greatest;
        }

        private boolean readClause() {
            if (passWord("rung")) {
                return readRung();
            }
            int kind = headKind();
            if (kind == NONE) {
                return false;
            }
            advance();
            int sumAt = stepCount;
            if ((kind == CLAUSE_DEEP || kind == CLAUSE_DENT) && !readSum()) {
                return false;
            }
            int testAt = stepCount;
            if (passWord("if") && !readTest()) {
                return false;
            }
            return addClause(kind, sumAt, testAt, stepCount);
        }

        private int headKind() {
            if (isWord("cuts")) {
                return CLAUSE_CUTS;
            }
            if (isWord("both")) {
                return CLAUSE_BOTH;
            }
            if (isWord("deep")) {
                return CLAUSE_DEEP;
            }
            return isWord("dent") ? CLAUSE_DENT : NONE;
        }

        private boolean readRung() {
            if (!isNumber(1000)) {
                return false;
            }
            int number = tokenNumber;
            advance();
            if (!passWord("is") || !isNumber(MAX_STONES - 1)) {
                return false;
            }
            int stone = tokenNumber;
            advance();
            return addClause(CLAUSE_RUNG, number, stone, 0);
        }

        private boolean addClause(int kind, int first, int second, int third) {
            int at = clauseCount * Text.WIDTH;
            if (at + Text.WIDTH > clauses.length) {
                return false;
            }
            clauses[at] = kind;
            clauses[at + 1] = first;
            clauses[at + 2] = second;
            clauses[at + 3] = third;
            clauseCount++;
            return true;
        }

        private boolean addStep(int kind, int argument) {
            if (2 * stepCount + 2 > steps.length) {
                return false;
            }
            steps[2 * stepCount] = kind;
            steps[2 * stepCount + 1] = argument;
            stepCount++;
            return true;
        }

        /** A step that passes by all that has been added behind it since. */
        private void closePass(int step) {
            if (within(step, 0, stepCount - 1)) {
                steps[2 * step + 1] = stepCount - 1 - step;
            }
        }

        private boolean readTest() {
            boolean fine = readBoth();
            for (int n = 0; fine && n < TAPE_BYTES && passWord("or"); n++) {
                int step = stepCount;
                fine = addStep(Text.OR_PASS, 0) && readBoth();
                closePass(step);
            }
            return fine;
        }

        private boolean readBoth() {
            boolean fine = readPlain();
            for (int n = 0; fine && n < TAPE_BYTES && passWord("and"); n++) {
                int step = stepCount;
                fine = addStep(Text.AND_PASS, 0) && readPlain();
                closePass(step);
            }
            return fine;
        }

        /** Each "not" is passed here, so that a long row of them goes no deeper. */
        private boolean readPlain() {
            boolean turned = false;
            for (int n = 0; n < TAPE_BYTES && passWord("not"); n++) {
                turned = !turned;
            }
            if (isSign('(')) {
                if (!readBracketedTest()) {
                    return false;
                }
            } else {
                if (!readSum()) {
                    return false;
                }
                int kind = comparisonKind();
                if (kind == NONE) {
                    return false;
                }
                advance();
                if (!readSum() || !addStep(kind, 0)) {
                    return false;
                }
            }
            return !turned || addStep(Text.NOT, 0);
        }

        private int comparisonKind() {
            if (isSign('<')) {
                return Text.LESS;
            }
            if (isSign('>')) {
                return Text.GREATER;
            }
            return isSign('=') ? Text.EQUAL : NONE;
        }

        private boolean readBracketedTest() {
            if (!openBracket() || !readTest()) {
                return false;
            }
            brackets--;
            return passSign(')');
        }

        private boolean readBracketedSum() {
            if (!openBracket() || !readSum()) {
                return false;
            }
            brackets--;
            return passSign(']');
        }

        private boolean openBracket() {
            if (brackets >= MAX_BRACKETS) {
                return false;
            }
            brackets++;
            advance();
            return true;
        }

        private boolean readSum() {
            boolean fine = readTerm();
            for (int n = 0; fine && n < TAPE_BYTES && (isSign('+') || isSign('-')); n++) {
                int kind = isSign('+') ? Text.ADD : Text.SUBTRACT;
                advance();
                fine = readTerm() && addStep(kind, 0);
            }
            return fine;
        }

        private boolean readTerm() {
            boolean fine = readPart();
            for (int n = 0; fine && n < TAPE_BYTES && (isSign('*') || isSign('/')); n++) {
                int kind = isSign('*') ? Text.MULTIPLY : Text.DIVIDE;
                advance();
                fine = readPart() && addStep(kind, 0);
            }
            return fine;
        }

        private boolean readPart() {
            if (isSign('[')) {
                return readBracketedSum();
            }
            int word = partWord();
            if (parts >= MAX_PARTS || (word == NONE && !isNumber(100000))) {
                return false;
            }
            parts++;
            boolean fine = word == NONE ? addStep(Text.NUMBER, tokenNumber)
                    : addStep(Text.WORD, word);
            advance();
            return fine;
        }

        private int partWord() {
            if (isWord("point")) {
                return Text.POINT_WORD;
            }
            if (isWord("plane")) {
                return Text.PLANE_WORD;
            }
            if (isWord("load")) {
                return Text.LOAD_WORD;
            }
            if (isWord("hand")) {
                return Text.HAND_WORD;
            }
            if (isWord("face")) {
                return Text.FACE_WORD;
            }
            if (isWord("way")) {
                return Text.WAY_WORD;
            }
            if (isWord("corner")) {
                return Text.CORNER_WORD;
            }
            return isWord("stone") ? Text.STONE_WORD : NONE;
        }
    }

    /** What the LAW is asked of, and what it tells there. */
    private static final class Question {
        private static final long BROKEN = 1L << 62;
        private static final long WIDEST = 1000000000L;
        private static final int GREATEST_TOLD = 255;

        private final Bench bench;
        /** A TEXT's PARTS alone make it grow. */
        private final long[] stack = new long[MAX_PARTS + 1];
        /** What each word that is a PART stands for. */
        private final int[] words = new int[Text.WORDS];

        Question(Bench bench) {
            this.bench = bench;
        }

        /** The caller has looked whether all of these are there. */
        void ask(int corner, int stone, int face, int way, int hand, int load) {
            words[Text.POINT_WORD] = bench.points[corner];
            words[Text.PLANE_WORD] = bench.planes[Bench.spotOf(stone, face, way)];
            words[Text.LOAD_WORD] = load;
            words[Text.HAND_WORD] = hand;
            words[Text.FACE_WORD] = face;
            words[Text.WAY_WORD] = way;
            words[Text.CORNER_WORD] = corner;
            words[Text.STONE_WORD] = stone;
        }

        boolean isCut(int corner, int stone, int face, int way) {
            ask(corner, stone, face, way, 0, 1);
            return holds(CLAUSE_CUTS);
        }

        /** The WAYS, as bits, along which a corner CUTS a FACE. */
        private int waysCut(int corner, int stone, int face) {
            int bits = 0;
            for (int way = 0; way < WAYS; way++) {
                if (isCut(corner, stone, face, way)) {
                    bits |= 1 << way;
                }
            }
            return bits;
        }

        boolean hasShape(int corner, int stone, int marks) {
            for (int face = 0; face < FACES; face++) {
                if (waysCut(corner, stone, face) == marks) {
                    return true;
                }
            }
            return false;
        }

        int spotsCut(int corner, int stone) {
            int spots = 0;
            for (int face = 0; face < FACES; face++) {
                spots += Integer.bitCount(waysCut(corner, stone, face));
            }
            return spots;
        }

        /** Whether a CLAUSE of a kind without a SUM HOLDS. */
        boolean holds(int kind) {
            Text law = bench.lawText();
            for (int clause = 0; clause < law.clauseCount(); clause++) {
                if (law.clause(clause, Text.KIND) == kind && testOf(law, clause) == 1) {
                    return true;
                }
            }
            return false;
        }

        /** What the last CLAUSE of a kind with a SUM that HOLDS tells. */
        int lastTold(int kind) {
            Text law = bench.lawText();
            for (int clause = law.clauseCount() - 1; clause >= 0; clause--) {
                if (law.clause(clause, Text.KIND) == kind && testOf(law, clause) == 1) {
                    long sum = worked(law.steps, law.clause(clause, Text.SUM_AT),
                            law.clause(clause, Text.TEST_AT));
                    if (sum != BROKEN) {
                        return (int) Math.max(0L, Math.min(sum, GREATEST_TOLD));
                    }
                }
            }
            return 0;
        }

        /** 1 if the TEST of a CLAUSE is so, or there is none; else 0, or BROKEN. */
        private long testOf(Text law, int clause) {
            int from = law.clause(clause, Text.TEST_AT);
            int to = law.clause(clause, Text.ENDS_AT);
            return from == to ? 1 : worked(law.steps, from, to);
        }

        /** What the steps leave on the stack (of a TEST 1 or 0), or BROKEN. */
        private long worked(int[] steps, int from, int to) {
            int height = 0;
            for (int i = Math.max(0, from); i < to && 2 * i + 1 < steps.length; i++) {
                int kind = steps[2 * i];
                int argument = steps[2 * i + 1];
                if (kind == Text.NUMBER || kind == Text.WORD) {
                    if (height >= stack.length
                            || kind == Text.WORD && !within(argument, 0, words.length - 1)) {
                        return BROKEN;
                    }
                    stack[height] = kind == Text.WORD ? words[argument] : argument;
                    height++;
                } else if (height < 1) {
                    return BROKEN;
                } else if (kind == Text.NOT) {
                    stack[height - 1] = 1 - stack[height - 1];
                } else if (kind == Text.OR_PASS || kind == Text.AND_PASS) {
                    // What decides stays on the stack as the answer; what doesn't, makes way.
                    if ((stack[height - 1] == 1) == (kind == Text.OR_PASS)) {
                        i += Math.max(0, argument);
                    } else {
                        height--;
                    }
                } else {
                    height--;
                    long joined = height < 1 ? BROKEN : join(kind, stack[height - 1], stack[height]);
                    if (joined > WIDEST || joined < -WIDEST) {
                        return BROKEN;
                    }
                    stack[height - 1] = joined;
                }
            }
            return height == 1 ? stack[0] : BROKEN;
        }

        /** Both are at most WIDEST either way, so no product goes beyond what a long holds. */
        private static long join(int kind, long a, long b) {
            switch (kind) {
                case Text.ADD:
                    return a + b;
                case Text.SUBTRACT:
                    return a - b;
                case Text.MULTIPLY:
                    return a * b;
                case Text.DIVIDE:
                    return b == 0 ? BROKEN : a / b;
                case Text.LESS:
                    return a < b ? 1 : 0;
                case Text.GREATER:
                    return a > b ? 1 : 0;
                case Text.EQUAL:
                    return a == b ? 1 : 0;
                default:
                    return BROKEN;
            }
        }
    }

    /** What the TRIALS that COUNT SAY of each two STONES; look() takes it anew. */
    private static final class Ties {
        private final Bench bench;
        /** At a * MAX_STONES + b: how many SAY that a is above b. */
        final int[] said = new int[MAX_STONES * MAX_STONES];
        /** Of each STONE, as bits: those said to be above it, those said to be below it. */
        final int[] above = new int[MAX_STONES];
        final int[] below = new int[MAX_STONES];
        /** Of each STONE, as bits: those that it is OVER, those that were tried with it. */
        final int[] under = new int[MAX_STONES];
        final int[] tried = new int[MAX_STONES];

        Ties(Bench bench) {
            this.bench = bench;
        }

        void look() {
            Arrays.fill(said, 0);
            Arrays.fill(above, 0);
            Arrays.fill(below, 0);
            Arrays.fill(tried, 0);
            for (int trial = 0; trial < bench.trials; trial++) {
                if (bench.counts(trial)) {
                    take(trial);
                }
            }
            close();
        }

        private void take(int trial) {
            int a = bench.column(trial, CORNER);
            int b = bench.column(trial, STONE);
            tried[a] |= 1 << b;
            tried[b] |= 1 << a;
            if (bench.speaks(trial)) {
                said[a * MAX_STONES + b]++;
                below[a] |= 1 << b;
                above[b] |= 1 << a;
            }
        }

        private void close() {
            System.arraycopy(below, 0, under, 0, MAX_STONES);
            for (int through = 0; through < bench.stones; through++) {
                for (int stone = 0; stone < bench.stones; stone++) {
                    if ((under[stone] >> through & 1) == 1) {
                        under[stone] |= under[through];
                    }
                }
            }
        }

        boolean isOver(int a, int b) {
            return (under[a] >> b & 1) == 1;
        }

        int shortestRing(int stone) {
            int reached = 1 << stone;
            for (int length = 1; length <= bench.stones; length++) {
                reached = belowAnyOf(reached);
                if ((reached >> stone & 1) == 1) {
                    return length;
                }
            }
            return 0;
        }

        private int belowAnyOf(int stones) {
            int all = 0;
            for (int stone = 0; stone < bench.stones; stone++) {
                if ((stones >> stone & 1) == 1) {
                    all |= below[stone];
                }
            }
            return all;
        }
    }

    /** ORDERS of all STONES, and the latest BEST of them. */
    private static final class Orders {
        private static final int HALF = 6;
        private static final int HALF_SETS = 1 << HALF;

        private final Bench bench;
        /** One number for each set of STONES. */
        private final int[] table = new int[1 << MAX_STONES];
        /** At x * HALF_SETS + set: how many SAY that one of a half's set is above x. */
        private final int[] againstLow = new int[MAX_STONES * HALF_SETS];
        private final int[] againstHigh = new int[MAX_STONES * HALF_SETS];
        int size = 0;
        final int[] best = new int[MAX_STONES];
        private final int[] placeInBest = new int[MAX_STONES];

        Orders(Bench bench) {
            this.bench = bench;
            Arrays.fill(placeInBest, NONE);
        }

        /** In how many ORDERS each STONE stands behind all those above it. */
        int fitting(int[] above) {
            int all = (1 << bench.stones) - 1;
            Arrays.fill(table, 0, all + 1, 0);
            table[0] = 1;
            for (int first = 0; first < all; first++) {
                if (table[first] > 0) {
                    spread(first, above);
                }
            }
            return table[all];
        }

        private void spread(int first, int[] above) {
            for (int next = 0; next < bench.stones; next++) {
                int bit = 1 << next;
                if ((first & bit) == 0 && (above[next] & ~first) == 0) {
                    table[first | bit] += table[first];
                }
            }
        }

        /** How many are AGAINST the BEST, which is kept. */
        int findBest(int[] said) {
            countHalves(said);
            int all = (1 << bench.stones) - 1;
            table[0] = 0;
            for (int rest = 1; rest <= all; rest++) {
                table[rest] = least(rest);
            }
            keepBest(all);
            return table[all];
        }

        private void countHalves(int[] said) {
            for (int x = 0; x < bench.stones; x++) {
                for (int set = 1; set < HALF_SETS; set++) {
                    int lowest = set & -set;
                    int stone = Integer.bitCount(lowest - 1);
                    int at = x * HALF_SETS + set;
                    againstLow[at] = againstLow[at - lowest] + said[stone * MAX_STONES + x];
                    againstHigh[at] = againstHigh[at - lowest]
                            + said[(stone + HALF) * MAX_STONES + x];
                }
            }
        }

        /** How many are AGAINST an ORDER of the rest, if x is first in it and the others best. */
        private int withFirst(int x, int rest) {
            int at = x * HALF_SETS;
            return againstLow[at + (rest & HALF_SETS - 1)] + againstHigh[at + (rest >> HALF)]
                    + table[rest & ~(1 << x)];
        }

        private int least(int rest) {
            int least = BEYOND_ALL;
            for (int x = 0; x < bench.stones; x++) {
                if ((rest >> x & 1) == 1) {
                    least = Math.min(least, withFirst(x, rest));
                }
            }
            return least;
        }

        private void keepBest(int all) {
            Arrays.fill(placeInBest, NONE);
            size = bench.stones;
            int rest = all;
            for (int place = 0; place < size; place++) {
                int x = lowestFirst(rest);
                best[place] = x;
                placeInBest[x] = place;
                rest &= ~(1 << x);
            }
        }

        private int lowestFirst(int rest) {
            for (int x = 0; x < bench.stones; x++) {
                if ((rest >> x & 1) == 1 && withFirst(x, rest) == table[rest]) {
                    return x;
                }
            }
            return 0;
        }

        /** Whether the latest BEST has both, and the first one of them behind the second. */
        boolean isBehind(int a, int b) {
            return placeInBest[b] != NONE && placeInBest[a] > placeInBest[b];
        }

        /** Of a TRIAL that SAYS something. */
        boolean isAgainst(int trial) {
            return isBehind(bench.column(trial, CORNER), bench.column(trial, STONE));
        }

        /** Place p is bit size - 1 - p, so that of two rows as long the first is greater. */
        private boolean hasPlace(int places, int place) {
            return (places >> size - 1 - place & 1) == 1;
        }

        int chosenPlaces(int k) {
            int chosen = 0;
            int most = NONE;
            for (int places = (1 << size) - 1; places > 0; places--) {
                if (Integer.bitCount(places) == k) {
                    int sum = piecesToldApart(places);
                    if (sum > most) {
                        most = sum;
                        chosen = places;
                    }
                }
            }
            return chosen;
        }

        /** The sum over pairs of which one is a RUNG, or a RUNG stands between them. */
        int piecesToldApart(int places) {
            int sum = 0;
            int before = 0;
            int sinceRung = 0;
            for (int place = 0; place < size; place++) {
                int pieces = bench.pieces[best[place]];
                if (hasPlace(places, place)) {
                    sum += pieces * before;
                    sinceRung = 0;
                } else {
                    sum += pieces * (before - sinceRung);
                    sinceRung += pieces;
                }
                before += pieces;
            }
            return sum;
        }

        int stonesAt(int places) {
            int bits = 0;
            for (int place = 0; place < size; place++) {
                if (hasPlace(places, place)) {
                    bits |= 1 << best[place];
                }
            }
            return bits;
        }
    }

    /** All STONES in a row by a key, the least first, of alike ones by number. */
    private static final class Lineup {
        private final Bench bench;
        private final Question question;
        private final int[] keys = new int[MAX_STONES];
        private final int[] depths = new int[MAX_STONES];
        private final int[] loads = new int[MAX_STONES];
        final int[] stoneAt = new int[MAX_STONES];

        Lineup(Bench bench, Question question) {
            this.bench = bench;
            this.question = question;
        }

        void byDents(int load) {
            for (int stone = 0; stone < bench.stones; stone++) {
                question.ask(stone, stone, 0, 0, 0, load);
                keys[stone] = question.lastTold(CLAUSE_DENT);
            }
            sort();
        }

        void byGrooves() {
            Arrays.fill(depths, 0);
            Arrays.fill(loads, 0);
            for (int trial = 0; trial < bench.trials; trial++) {
                if (bench.column(trial, LEFT) == GROOVE && bench.counts(trial)) {
                    int stone = bench.column(trial, STONE);
                    depths[stone] += bench.column(trial, DEPTH);
                    loads[stone] += bench.column(trial, LOAD);
                }
            }
            for (int stone = 0; stone < bench.stones; stone++) {
                keys[stone] = loads[stone] == 0 ? BEYOND_ALL : depths[stone] * 100 / loads[stone];
            }
            sort();
        }

        private void sort() {
            for (int stone = 0; stone < bench.stones; stone++) {
                int at = stone;
                while (at > 0 && keys[stoneAt[at - 1]] > keys[stone]) {
                    stoneAt[at] = stoneAt[at - 1];
                    at--;
                }
                stoneAt[at] = stone;
            }
        }

        int pairsOtherwise(Orders ladder) {
            int pairs = 0;
            for (int later = 1; later < bench.stones; later++) {
                for (int earlier = 0; earlier < later; earlier++) {
                    if (ladder.isBehind(stoneAt[earlier], stoneAt[later])) {
                        pairs++;
                    }
                }
            }
            return pairs;
        }
    }

    /** The RUNGS of the LAW. */
    private static final class Rungs {
        private final Bench bench;
        private final Ties ties;

        Rungs(Bench bench, Ties ties) {
            this.bench = bench;
            this.ties = ties;
        }

        /** The greatest number of RUNGS that a STONE is OVER. */
        int numberBelow(int stone) {
            Text law = bench.lawText();
            int greatest = 0;
            for (int clause = 0; clause < law.clauseCount(); clause++) {
                if (isRung(law, clause) && ties.isOver(stone, stoneOf(law, clause))) {
                    greatest = Math.max(greatest, numberOf(law, clause));
                }
            }
            return greatest;
        }

        /** The least number of RUNGS that are OVER a STONE. */
        int numberAbove(int stone) {
            Text law = bench.lawText();
            int least = BEYOND_RUNGS;
            for (int clause = 0; clause < law.clauseCount(); clause++) {
                if (isRung(law, clause) && ties.isOver(stoneOf(law, clause), stone)) {
                    least = Math.min(least, numberOf(law, clause));
                }
            }
            return least;
        }

        /** The STONE of the RUNG in the middle of those between which a STONE may stand. */
        int middleFor(int stone) {
            Text law = bench.lawText();
            int low = numberBelow(stone);
            int high = numberAbove(stone);
            int between = 0;
            for (int clause = 0; clause < law.clauseCount(); clause++) {
                if (isBetween(law, clause, low, high, stone)) {
                    between++;
                }
            }
            for (int clause = 0; clause < law.clauseCount(); clause++) {
                if (isBetween(law, clause, low, high, stone)
                        && aheadOf(law, clause, low, stone) == (between - 1) / 2) {
                    return stoneOf(law, clause);
                }
            }
            return NONE;
        }

        /** How many of those above low stand ahead of a RUNG: by numbers, then as told. */
        private int aheadOf(Text law, int rung, int low, int stone) {
            int number = numberOf(law, rung);
            int ahead = 0;
            for (int clause = 0; clause < law.clauseCount(); clause++) {
                int high = clause < rung ? number + 1 : number;
                if (isBetween(law, clause, low, high, stone)) {
                    ahead++;
                }
            }
            return ahead;
        }

        private boolean isBetween(Text law, int clause, int low, int high, int stone) {
            return isRung(law, clause) && stoneOf(law, clause) != stone
                    && numberOf(law, clause) > low && numberOf(law, clause) < high;
        }

        private boolean isRung(Text law, int clause) {
            return law.clause(clause, Text.KIND) == CLAUSE_RUNG
                    && bench.hasStone(stoneOf(law, clause));
        }

        private static int numberOf(Text law, int clause) {
            return law.clause(clause, Text.RUNG_NUMBER);
        }

        private static int stoneOf(Text law, int clause) {
            return law.clause(clause, Text.RUNG_STONE);
        }
    }

    /** FEWEST: what is OVER what of some told STONES is held in one number of 25 bits. */
    private static final class Sorter {
        private static final int ROW_BITS = (1 << MAX_TOLD) - 1;

        private final int[] told = new int[MAX_TOLD];
        private final int[] rows = new int[1 << MAX_TOLD];
        private int size = 0;
        private int start = 0;
        private int firstPair = NONE;

        /** Whether the told STONES, 2 to 5, can be sorted: none is OVER itself. */
        boolean take(int stones, Ties ties) {
            size = 0;
            for (int stone = 0; stone < MAX_STONES && size < MAX_TOLD; stone++) {
                if ((stones >> stone & 1) == 1) {
                    told[size] = stone;
                    size++;
                }
            }
            start = 0;
            for (int i = 0; i < size; i++) {
                for (int j = 0; j < size; j++) {
                    if (ties.isOver(told[i], told[j])) {
                        start |= 1 << i * MAX_TOLD + j;
                    }
                }
                if (isOver(start, i, i)) {
                    return false;
                }
            }
            return true;
        }

        /** How many trials are enough; the first pair with which they are is kept. */
        int trialsNeeded() {
            firstPair = NONE;
            int left = rowsLeft(start);
            int needed = 0;
            int pairs = size * (size - 1) / 2;
            while (left > 1 && firstPair == NONE && needed < pairs) {
                needed++;
                firstPair = goodPair(start, left, needed);
            }
            return needed;
        }

        /** The first trial of those that trialsNeeded() found. */
        int firstTrial() {
            return firstPair == NONE ? NONE
                    : told[firstPair / MAX_TOLD] * MAX_STONES + told[firstPair % MAX_TOLD];
        }

        /** The lowest pair with which so many trials sort the rows that are left; NONE without. */
        private int goodPair(int relation, int left, int trials) {
            for (int i = 0; i < size; i++) {
                for (int j = i + 1; j < size; j++) {
                    if (!isOver(relation, i, j) && !isOver(relation, j, i)
                            && isGood(relation, left, i, j, trials)) {
                        return i * MAX_TOLD + j;
                    }
                }
            }
            return NONE;
        }

        private boolean isGood(int relation, int left, int i, int j, int trials) {
            int above = with(relation, i, j);
            int leftAbove = rowsLeft(above);
            // A trial can't do better than halve the rows.
            int most = 1 << trials - 1;
            return leftAbove <= most && left - leftAbove <= most
                    && areEnough(above, leftAbove, trials - 1)
                    && areEnough(with(relation, j, i), left - leftAbove, trials - 1);
        }

        /** Each level has a trial fewer than the one before it, so it goes ten deep at most. */
        private boolean areEnough(int relation, int left, int trials) {
            return left <= 1 || trials > 0 && goodPair(relation, left, trials) != NONE;
        }

        private static boolean isOver(int relation, int i, int j) {
            return (relation >> i * MAX_TOLD + j & 1) == 1;
        }

        /** The relation when i is above j too, with all that follows. */
        private int with(int relation, int i, int j) {
            int lower = relation >> j * MAX_TOLD & ROW_BITS | 1 << j;
            int joined = relation;
            for (int upper = 0; upper < size; upper++) {
                if (upper == i || isOver(relation, upper, i)) {
                    joined |= lower << upper * MAX_TOLD;
                }
            }
            return joined;
        }

        /** How many rows of the told STONES the relation lets. */
        private int rowsLeft(int relation) {
            int all = (1 << size) - 1;
            Arrays.fill(rows, 0);
            rows[0] = 1;
            for (int last = 0; last < all; last++) {
                for (int i = 0; i < size && rows[last] > 0; i++) {
                    int lower = relation >> i * MAX_TOLD & ROW_BITS;
                    if ((last >> i & 1) == 0 && (lower & ~last) == 0) {
                        rows[last | 1 << i] += rows[last];
                    }
                }
            }
            return rows[all];
        }
    }

    /**
     * CALLED: NAMES are given out from the least KNOWN number up, all that are KNOWN as the same
     * number at once; what a STONE is above must have had its NAME before.
     */
    private static final class Naming {
        private static final int NOBODY = -1;

        private final Bench bench;
        private final Ties ties;
        /** For each set of STONES: in how many rows just these have the least numbers. */
        private final int[] rows = new int[1 << MAX_CALLED];

        Naming(Bench bench, Ties ties) {
            this.bench = bench;
            this.ties = ties;
        }

        int allRows() {
            return rowsWith(NOBODY);
        }

        /** NAMES KNOWN as one number can be exchanged, so its own is among them in some row. */
        int wrongInAll() {
            int bits = 0;
            boolean areRows = allRows() > 0;
            for (int stone = 0; stone < bench.stones; stone++) {
                if (areRows && rowsWith(stone) == 0) {
                    bits |= 1 << stone;
                }
            }
            return bits;
        }

        int wrongInSome() {
            int bits = 0;
            int all = allRows();
            for (int stone = 0; stone < bench.stones; stone++) {
                if (all > 0 && (rowsWith(stone) < all || canBeExchanged(stone))) {
                    bits |= 1 << stone;
                }
            }
            return bits;
        }

        /** Whether another NAME is KNOWN as the same number as that of a STONE. */
        private boolean canBeExchanged(int stone) {
            for (int other = 0; other < bench.stones; other++) {
                if (bench.names[other] != bench.names[stone]
                        && bench.knownNumber(other) == bench.knownNumber(stone)) {
                    return true;
                }
            }
            return false;
        }

        /** How many rows there are in which one STONE keeps the number that its NAME has. */
        private int rowsWith(int keeper) {
            Arrays.fill(rows, 0);
            rows[0] = 1;
            int given = 0;
            int number = NONE;
            for (int round = 0; round < bench.stones && given < bench.stones; round++) {
                number = nextNumber(number);
                int names = namesKnownAs(number);
                boolean isKeepers = keeper != NOBODY && bench.knownNumber(keeper) == number;
                giveOut(given, names, isKeepers ? 1 << keeper : 0);
                given += names;
            }
            return rows[(1 << bench.stones) - 1];
        }

        private int nextNumber(int above) {
            int least = BEYOND_ALL;
            for (int stone = 0; stone < bench.stones; stone++) {
                int number = bench.knownNumber(stone);
                if (number > above) {
                    least = Math.min(least, number);
                }
            }
            return least;
        }

        private int namesKnownAs(int number) {
            int names = 0;
            for (int stone = 0; stone < bench.stones; stone++) {
                if (bench.knownNumber(stone) == number) {
                    names++;
                }
            }
            return names;
        }

        /** Each set of STONES that have their NAMES takes so many more, those that must among them. */
        private void giveOut(int given, int names, int must) {
            int ways = 1;
            for (int i = 2; i <= names; i++) {
                ways *= i;
            }
            for (int lower = 0; lower < 1 << bench.stones; lower++) {
                if (rows[lower] == 0 || Integer.bitCount(lower) != given) {
                    continue;
                }
                int ready = readyAfter(lower);
                for (int taken = ready; taken > 0; taken = taken - 1 & ready) {
                    if (Integer.bitCount(taken) == names && (taken & must) == must) {
                        rows[lower | taken] += rows[lower] * ways;
                    }
                }
            }
        }

        /** The STONES without a NAME yet that are above none but those with one. */
        private int readyAfter(int lower) {
            int ready = 0;
            for (int stone = 0; stone < bench.stones; stone++) {
                if ((lower >> stone & 1) == 0 && (ties.below[stone] & ~lower) == 0) {
                    ready |= 1 << stone;
                }
            }
            return ready;
        }
    }
}
