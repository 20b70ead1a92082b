import java.nio.charset.StandardCharsets;

/** Each promise of the document by itself: ordinary inputs, edges, wrong inputs. */
public final class PromiseTest {
    private static final int LOW = Integer.MIN_VALUE;
    private static final int HIGH = Integer.MAX_VALUE;
    private static int asked = 0;
    private static int wrong = 0;

    private static void due(int promise, String what, int got, int want) {
        asked++;
        if (got != want) {
            wrong++;
            System.out.println("promise " + promise + ": " + what + " answered " + got + ", due is "
                    + want);
        }
    }

    /** Bytes come on the TAPE behind what it has. */
    private static void tape(ScratchLadder x, byte[] bytes) {
        int has = x.count(4);
        for (int at = 0; at < bytes.length; at += 20) {
            int[] fours = new int[5];
            for (int i = 0; i < 20; i++) {
                fours[i / 4] = fours[i / 4] << 8 | (at + i < bytes.length ? bytes[at + i] & 255 : 0);
            }
            x.feed(fours[0], fours[1], fours[2], fours[3], fours[4]);
        }
        x.end(has + bytes.length);
    }

    private static int write(ScratchLadder x, String text) {
        tape(x, text.getBytes(StandardCharsets.ISO_8859_1));
        return x.text();
    }

    private static void rule(ScratchLadder x, String text) {
        int number = write(x, text);
        due(10, "the text " + text, number >= 0 ? 1 : 0, 1);
        x.law(number);
    }

    /** A ROW of TRIALS, seven numbers each. */
    private static int row(ScratchLadder x, int... numbers) {
        byte[] bytes = new byte[numbers.length];
        for (int i = 0; i < numbers.length; i++) {
            bytes[i] = (byte) numbers[i];
        }
        tape(x, bytes);
        return x.row();
    }

    /** A GROOVE that SAYS that a is above b, by hand 0 on face 0 along way 0. */
    private static void above(ScratchLadder x, int a, int b) {
        due(15, "a row of one", row(x, a, b, 0, 0, 0, 1, 0), 1);
    }

    private static ScratchLadder stones(int many) {
        ScratchLadder x = new ScratchLadder();
        for (int i = 0; i < many; i++) {
            due(2, "stone " + i, x.stone(i, i + 1, 200), i);
        }
        return x;
    }

    private static void newObject() {
        ScratchLadder x = new ScratchLadder();
        for (int what = 0; what < 5; what++) {
            due(1, "count(" + what + ")", x.count(what), 0);
        }
        due(1, "fault()", x.fault(), -1);
        due(1, "status()", x.status(), 0);
        due(1, "place(0)", x.place(0), -1);
        due(1, "orders()", x.orders(), 1);
        due(1, "NONE", ScratchLadder.NONE, -1);
    }

    private static void stone() {
        ScratchLadder x = new ScratchLadder();
        int[][] bad = {{-1, 1, 0}, {12, 1, 0}, {0, 0, 0}, {0, 101, 0}, {0, 1, -1}, {0, 1, 201},
            {LOW, 1, 0}, {0, HIGH, 0}};
        for (int[] b : bad) {
            due(2, "a bad stone", x.stone(b[0], b[1], b[2]), -1);
            due(43, "status", x.status(), -1);
        }
        due(2, "count after bad ones", x.count(0), 0);
        due(2, "least", x.stone(0, 1, 0), 0);
        due(2, "greatest", x.stone(11, 100, 200), 1);
        for (int i = 2; i < 12; i++) {
            due(2, "same names", x.stone(5, 1, 1), i);
        }
        due(2, "a 13th", x.stone(5, 1, 1), -5);
        due(43, "status", x.status(), -5);
        due(2, "a bad 13th", x.stone(5, 0, 1), -1);
        due(2, "count", x.count(0), 12);
    }

    private static void planeAndPoint() {
        ScratchLadder x = stones(2);
        due(3, "first", x.plane(1, 2, 3, 999), 0);
        due(3, "again", x.plane(1, 2, 3, 0), 999);
        due(3, "another spot", x.plane(1, 2, 2, 5), 0);
        due(3, "another stone", x.plane(0, 2, 3, 5), 0);
        int[][] bad = {{0, -1, 0, 0}, {0, 3, 0, 0}, {0, 0, -1, 0}, {0, 0, 4, 0}, {0, 0, 0, -1},
            {0, 0, 0, 1000}, {9, 3, 0, 0}};
        for (int[] b : bad) {
            due(3, "bad", x.plane(b[0], b[1], b[2], b[3]), -1);
        }
        for (int stone : new int[] {-1, 2, 11, 12, LOW, HIGH}) {
            due(3, "no stone " + stone, x.plane(stone, 0, 0, 0), -2);
            due(4, "no stone " + stone, x.point(stone, 0), -2);
            due(43, "status", x.status(), -2);
        }
        due(4, "first", x.point(1, 999), 0);
        due(4, "again", x.point(1, 3), 999);
        due(4, "another", x.point(0, 4), 0);
        due(4, "too great", x.point(0, 1000), -1);
        due(4, "too small", x.point(0, -1), -1);
        due(4, "both wrong", x.point(9, 1000), -1);
        due(4, "it stays", x.point(0, 5), 4);
    }

    private static void knownHandSeed() {
        ScratchLadder x = new ScratchLadder();
        due(5, "first", x.known(11, 1000), 0);
        due(5, "again", x.known(11, 0), 1000);
        due(5, "another", x.known(0, 7), 0);
        int[][] bad = {{-1, 0}, {12, 0}, {0, -1}, {0, 1001}};
        for (int[] b : bad) {
            due(5, "bad", x.known(b[0], b[1]), -1);
        }
        due(5, "it stays", x.known(0, 8), 7);
        due(6, "hand", x.hand(3, 100, 100), 0);
        int[][] badHands = {{-1, 0, 0}, {4, 0, 0}, {0, -1, 0}, {0, 101, 0}, {0, 0, -1}, {0, 0, 101}};
        for (int[] b : badHands) {
            due(6, "bad", x.hand(b[0], b[1], b[2]), -1);
        }
        due(7, "least", x.seed(0), 0);
        due(7, "greatest", x.seed(1000000), 0);
        due(7, "below", x.seed(-1), -1);
        due(7, "above", x.seed(1000001), -1);
    }

    /** 12345, 629305 (modulo 1,000,003) and so on: worked out beside the program. */
    private static void draws() {
        long s = 0;
        ScratchLadder x = stones(2);
        x.hand(0, 50, 0);
        for (int i = 0; i < 40; i++) {
            s = (s * 1103 + 12345) % 1000003;
            due(14, "slip " + i, x.trial(0, 1, 0, 0, 0, 1), s % 100 < 50 ? 1 : 0);
        }
        x.hand(1, 0, 30);
        x.seed(77);
        s = 77;
        for (int i = 0; i < 40; i++) {
            s = (s * 1103 + 12345) % 1000003;
            due(14, "dust " + i, x.trial(0, 1, 0, 0, 1, 1), s % 100 < 30 ? 2 : 0);
        }
        x.hand(2, 40, 60);
        x.seed(1000000);
        s = 1000000;
        for (int i = 0; i < 30; i++) {
            s = (s * 1103 + 12345) % 1000003;
            int left = 1;
            if (s % 100 >= 40) {
                s = (s * 1103 + 12345) % 1000003;
                left = s % 100 < 60 ? 2 : 0;
            }
            due(14, "both " + i, x.trial(0, 1, 0, 0, 2, 1), left);
        }
        ScratchLadder y = stones(2);
        // A hand without slip and dust draws nothing, and so does a trial that is refused.
        due(14, "no draw", y.trial(0, 1, 0, 0, 0, 1), 0);
        y.hand(0, 13, 46);
        due(14, "refused", y.trial(0, 0, 0, 0, 0, 1), -3);
        // The first draw is 45, the second 12345 * 1103 + 12345 modulo 1,000,003 modulo 100.
        long second = (12345L * 1103 + 12345) % 1000003 % 100;
        due(14, "the first draw", y.trial(0, 1, 0, 0, 0, 1), second < 46 ? 2 : 0);
        ScratchLadder z = stones(2);
        z.hand(0, 0, 46);
        due(14, "45 is below 46", z.trial(0, 1, 0, 0, 0, 1), 2);
        z.seed(0);
        z.hand(0, 0, 45);
        due(14, "45 is not below 45", z.trial(0, 1, 0, 0, 0, 1), 0);
        // With 1 there is a draw too: the next one after it is not 45.
        for (int[] slipAndDust : new int[][] {{1, 0}, {0, 1}}) {
            ScratchLadder v = stones(2);
            v.hand(0, slipAndDust[0], slipAndDust[1]);
            due(14, "45 is not below 1", v.trial(0, 1, 0, 0, 0, 1), 0);
            v.hand(0, 0, 45);
            due(14, "the second draw is 41", v.trial(0, 1, 0, 0, 0, 1), 2);
            v.hand(0, 0, (int) second + 1);
            v.seed(12345);
            due(14, "the second draw", v.trial(0, 1, 0, 0, 0, 1), 2);
        }
    }

    private static void tapes() {
        ScratchLadder x = new ScratchLadder();
        due(8, "20", x.feed(0, -1, 2, 3, 4), 20);
        due(9, "too many", x.end(21), -1);
        due(9, "below 0", x.end(-1), -1);
        due(9, "all", x.end(20), 20);
        due(9, "some", x.end(7), 7);
        due(42, "bytes", x.count(4), 7);
        due(9, "gone", x.end(8), -1);
        due(8, "behind", x.feed(0, 0, 0, 0, 0), 27);
        for (int i = 0; i < 18; i++) {
            x.feed(0, 0, 0, 0, 0);
        }
        due(8, "387", x.count(4), 387);
        due(8, "more than 400", x.feed(0, 0, 0, 0, 0), -1);
        due(8, "as it was", x.count(4), 387);
        due(9, "380", x.end(380), 380);
        due(8, "just 400", x.feed(0, 0, 0, 0, 0), 400);
        due(8, "one more", x.feed(0, 0, 0, 0, 0), -1);
        due(9, "none", x.end(0), 0);
        due(43, "no status", x.status(), 0);
        // The highest byte first, and bytes above 127 too.
        ScratchLadder y = stones(2);
        y.feed(0x00010203, 0x0302ff00, 0, 0, 0);
        y.end(7);
        due(15, "one", y.row(), 1);
        int[] want = {0, 1, 2, 3, 3, 2, 255, 1, 0};
        for (int i = 0; i < 9; i++) {
            due(16, "of " + i, y.of(0, i), want[i]);
        }
    }

    private static void fault(String text, int place) {
        ScratchLadder x = new ScratchLadder();
        due(10, text, write(x, text), -6);
        due(11, text, x.fault(), place);
        due(10, "the tape", x.count(4), 0);
        due(10, "texts", x.count(1), 0);
        due(43, "status", x.status(), -6);
    }

    private static void reads(String text) {
        ScratchLadder x = new ScratchLadder();
        due(10, text, write(x, text), 0);
        due(11, text, x.fault(), -1);
        due(10, "the tape", x.count(4), 0);
        due(10, "texts", x.count(1), 1);
    }

    private static String times(String text, int many) {
        return text.repeat(many);
    }

    private static void texts() {
        reads("cuts");
        reads("  both  ");
        reads("rung0is0;rung1000is11");
        reads("rung 00001000 is 00011");
        reads("deep 100000*[1]if(not not 1=1)");
        reads("dent point+plane-load*hand/face+way+corner+stone");
        reads("cuts if not(1<2 or 2>3 and 1=1)");
        reads("cuts" + times(";cuts", 11));
        reads("deep 1" + times("+1", 49));
        reads("rung 1 is 1;deep 1" + times("+1", 49) + ";rung 2 is 2");
        reads("deep " + times("[", 8) + "1" + times("]", 8));
        reads("deep [1]+[1]*[1]-[1]+[1]+[1]+[1]+[1]+[1]+[1]");
        reads("cuts if " + times("(", 4) + times("[", 4) + "1" + times("]", 4) + "=1"
                + times(")", 4));
        reads("cuts if " + times("not ", 95) + "1=1");
        reads("cuts if (1=1)" + times(" or (1=1)", 12));
        reads("cuts if [1]=1" + times(" and [1]=1", 12));
        fault("", 0);
        fault("   ", 3);
        fault("cuts;", 5);
        fault("cuts; ", 6);
        fault(";cuts", 0);
        fault("Cuts", 0);
        fault("cutsif 1=1", 0);
        fault("cutsz", 0);
        fault("acuts", 0);
        fault("buts", 0);
        fault("cutt", 0);
        fault("deep xoad", 5);
        fault("cuts 5", 5);
        fault("cuts if", 7);
        fault("cuts if 1=1 2", 12);
        fault("cuts if 1=1=1", 11);
        fault("cuts if (1=1", 12);
        fault("cuts if (1=1]", 12);
        fault("cuts if (1)=1", 10);
        fault("cuts if [1=1]", 10);
        fault("cuts if 1 or 2", 10);
        fault("cuts if 1<=2", 10);
        fault("cuts if not", 11);
        fault("cuts if 1=", 10);
        fault("cuts if 1=;cuts", 10);
        fault("cuts if (", 9);
        fault("cuts if 1=1 or", 14);
        fault("cuts if 1=1 and;", 15);
        fault("deep", 4);
        fault("deep if", 5);
        fault("deep +1", 5);
        fault("deep 1 1", 7);
        fault("deep -1", 5);
        fault("deep (1)", 5);
        fault("deep []", 6);
        fault("deep [", 6);
        fault("deep [1+", 8);
        fault("deep [1;cuts", 7);
        fault("deep 1*", 7);
        fault("deep 100001", 5);
        fault("deep 99999999999999999999", 5);
        fault("deep 1\t", 6);
        fault("deep points", 5);
        fault("deep 1point", 6);
        fault("rung", 4);
        fault("rung 1001 is 1", 5);
        fault("rung 1 is 12", 10);
        fault("rung 1 is point", 10);
        fault("rung 1 if 1", 7);
        fault("rung 1 is 1 if 1=1", 12);
        fault("cuts" + times(";cuts", 12), 60);
        fault("cuts" + times(";cuts", 11) + "; 5", 61);
        fault("cuts" + times(";cuts", 11) + "; ", 61);
        fault("deep 1" + times("+1", 49) + " + 1", 107);
        fault("deep 1" + times("+1", 24) + ";dent 1" + times("+1", 24) + ";dent load", 115);
        fault("deep " + times("[", 9) + "1" + times("]", 9), 13);
        fault("cuts if " + times("(", 5) + times("[", 4) + "1", 16);
        fault("cuts if " + times("(", 9), 16);
        fault("cuts" + (char) 160 + "if 1=1", 4);
        fault("cuts" + (char) 0, 4);
    }

    private static void textRoom() {
        ScratchLadder x = new ScratchLadder();
        for (int i = 0; i < 10; i++) {
            due(10, "text " + i, write(x, "cuts"), i);
        }
        due(11, "fault", x.fault(), -1);
        due(10, "an 11th", write(x, "cuts if"), -5);
        due(43, "status", x.status(), -5);
        due(11, "it was not read", x.fault(), -1);
        due(42, "texts", x.count(1), 10);
        ScratchLadder y = new ScratchLadder();
        due(10, "a fault", write(y, "cuts x"), -6);
        due(11, "its place", y.fault(), 5);
        due(10, "a good one", write(y, "cuts"), 0);
        due(11, "no fault", y.fault(), -1);
        for (int i = 0; i < 10; i++) {
            write(y, "cuts if ((((([");
            due(11, "open brackets", y.fault(), 14);
        }
        due(10, "are forgotten", write(y, "deep " + times("[", 8) + "1" + times("]", 8)), 1);
        y.image(0);
        for (int i = 0; i < 60; i++) {
            y.back(0);
            due(10, "one more", write(y, "deep 1" + times("+1", 49)), 2);
        }
        // 400 bytes at once.
        due(10, "400 bytes", write(y, "cuts" + times(" ", 391) + ";both"), 3);
    }

    private static void laws() {
        ScratchLadder x = stones(2);
        for (int text : new int[] {-1, 0, 9, 10, LOW, HIGH}) {
            due(12, "no text " + text, x.law(text), -2);
        }
        due(43, "status", x.status(), -2);
        due(13, "without a law", x.cuts(0, 1, 0, 0), 0);
        write(x, "both");
        write(x, "cuts");
        due(12, "the first", x.law(0), -1);
        due(43, "status", x.status(), 0);
        due(13, "both", x.cuts(0, 1, 0, 0), 0);
        due(12, "the second", x.law(1), 0);
        due(13, "cuts", x.cuts(0, 1, 0, 0), 1);
        due(12, "no third", x.law(2), -2);
        due(12, "the second again", x.law(1), 1);
    }

    private static void asks(String test, int so) {
        ScratchLadder x = stones(4);
        x.point(3, 300);
        x.plane(2, 1, 3, 123);
        rule(x, "cuts if " + test);
        due(13, test, x.cuts(3, 2, 1, 3), so);
    }

    private static void cuts() {
        asks("point = 300", 1);
        asks("plane = 123", 1);
        asks("face * 1000 + way * 100 + corner * 10 + stone = 1332", 1);
        asks("load = 1 and hand = 0", 1);
        asks("point < 300 or point > 300", 0);
        asks("2 + 3 * 4 = 14", 1);
        asks("[2 + 3] * 4 = 20", 1);
        asks("10 - 3 - 2 = 5", 1);
        asks("100 / 7 / 2 = 7", 1);
        asks("[0 - 7] / 2 = 0 - 3", 1);
        asks("7 / [0 - 2] = 0 - 3", 1);
        asks("1 = 1 or 1 = 2 and 1 = 2", 1);
        asks("[1] = 1 and (1 = 2 or 1 = 1)", 1);
        asks("not 1 = 2 and 1 = 1", 1);
        asks("not (1 = 2 and 1 = 1)", 1);
        asks("not not 1 = 2", 0);
        asks("not 1 = 1", 0);
        asks("not (not 1 = 1)", 1);
        asks("not (not 1 = 2)", 0);
        asks("not 1 = 1 or 1 = 1", 1);
        asks("1 / 0 = 0", 0);
        asks("not 1 / 0 = 0", 0);
        asks("1 = 1 or 1 / 0 = 0", 1);
        asks("1 / 0 = 0 or 1 = 1", 0);
        asks("1 = 2 and 1 / 0 = 0", 0);
        asks("1 = 2 and 1 / 0 = 0 or 1 = 1", 1);
        asks("not (1 = 2 and 1 / 0 = 0)", 1);
        asks("1 = 1 and 1 / 0 = 0 or 1 = 1", 0);
        asks("1 = 2 or 1 = 1 or 1 / 0 = 0", 1);
        asks("(1 = 1 or 1 / 0 = 0) and 1 = 2", 0);
        asks("100000 * 10000 = 100000 * 10000", 1);
        asks("100000 * 10000 + 1 > 0", 0);
        asks("0 - 100000 * 10000 < 0", 1);
        asks("0 - 100000 * 10000 - 1 < 0", 0);
        asks("100000 * 100000 / 100000 = 100000", 0);
        asks("0 = 100000 * 10000 * 100000 * 0", 0);
        ScratchLadder x = stones(2);
        x.point(0, 10);
        x.plane(0, 0, 0, 5);
        rule(x, "cuts if 1=2;cuts if point > plane;cuts if 1=2");
        due(13, "itself", x.cuts(0, 0, 0, 0), 1);
        due(13, "some clause", x.cuts(0, 1, 2, 3), 1);
        due(13, "no clause", x.cuts(1, 0, 0, 0), 0);
        int[][] bad = {{-1, 0, 0, 0}, {2, 0, 0, 0}, {0, -1, 0, 0}, {0, 2, 0, 0}, {0, 1, -1, 0},
            {0, 1, 3, 0}, {0, 1, 0, -1}, {0, 1, 0, 4}};
        for (int[] b : bad) {
            due(13, "bad", x.cuts(b[0], b[1], b[2], b[3]), -1);
        }
        due(43, "no status", x.status(), 0);
    }

    private static void trials() {
        ScratchLadder x = new ScratchLadder();
        x.stone(0, 1, 2);
        x.stone(1, 1, 0);
        rule(x, "cuts if hand<3;both if hand=1;deep load*100+hand;deep 5/0;deep 1 if 1/0=1");
        int[][] bad = {{0, 1, -1, 0, 0, 1}, {0, 1, 3, 0, 0, 1}, {0, 1, 0, -1, 0, 1},
            {0, 1, 0, 4, 0, 1}, {0, 1, 0, 0, -1, 1}, {0, 1, 0, 0, 4, 1}, {0, 1, 0, 0, 0, 0},
            {0, 1, 0, 0, 0, 101}, {7, 7, 0, 0, 0, 0}};
        for (int[] b : bad) {
            due(14, "bad", x.trial(b[0], b[1], b[2], b[3], b[4], b[5]), -1);
        }
        due(14, "no corner", x.trial(2, 1, 0, 0, 0, 1), -2);
        due(14, "no stone", x.trial(0, -1, 0, 0, 0, 1), -2);
        due(14, "not there ahead of the same", x.trial(5, 5, 0, 0, 0, 1), -2);
        due(14, "the same", x.trial(0, 0, 0, 0, 0, 1), -3);
        due(14, "no uses", x.trial(1, 0, 0, 0, 0, 1), -3);
        due(14, "none was made", x.count(2), 0);
        due(14, "no use is gone", x.count(3), 2);
        due(14, "both", x.trial(0, 1, 2, 3, 1, 2), 3);
        int[] want = {0, 1, 2, 3, 1, 3, 201, 2, 0};
        for (int i = 0; i < 9; i++) {
            due(16, "of " + i, x.of(0, i), want[i]);
        }
        due(14, "a groove", x.trial(0, 1, 0, 0, 0, 100), 1);
        due(16, "255 at most", x.of(1, 6), 255);
        due(14, "no uses", x.trial(0, 1, 0, 0, 0, 1), -3);
        due(42, "uses", x.count(3), 0);
        for (int what : new int[] {-1, 9, LOW, HIGH}) {
            due(16, "of what", x.of(0, what), -1);
        }
        for (int trial : new int[] {-1, 2, LOW, HIGH}) {
            due(16, "of which", x.of(trial, 0), -1);
        }
        ScratchLadder y = new ScratchLadder();
        y.stone(0, 1, 200);
        y.stone(1, 1, 0);
        rule(y, "cuts if load>1;deep 3-load*2;deep 9 if load=5");
        due(14, "nothing", y.trial(0, 1, 0, 0, 0, 1), 0);
        due(16, "no depth", y.of(0, 6), 0);
        due(14, "below 0", y.trial(0, 1, 0, 0, 0, 2), 1);
        due(16, "0 at least", y.of(1, 6), 0);
        due(14, "the last", y.trial(0, 1, 0, 0, 0, 5), 1);
        due(16, "that holds", y.of(2, 6), 9);
        for (int i = 3; i < 120; i++) {
            y.trial(0, 1, 0, 0, 0, 1);
        }
        due(14, "120", y.count(2), 120);
        ScratchLadder z = stones(2);
        z.hand(0, 100, 0);
        due(14, "a slip without a law", z.trial(0, 1, 0, 0, 0, 9), 1);
        due(16, "its depth", z.of(0, 6), 0);
        rule(z, "dent 7;rung 7 is 1");
        due(14, "a slip with one", z.trial(0, 1, 0, 0, 0, 9), 1);
        due(16, "its depth without a deep", z.of(1, 6), 0);
        due(14, "no room", y.trial(0, 1, 0, 0, 0, 1), -5);
        due(14, "-3 ahead of -5", y.trial(1, 0, 0, 0, 0, 1), -3);
        due(14, "-1 ahead of all", y.trial(1, 0, 0, 0, 0, 0), -1);
        due(42, "uses", y.count(3), 80);
        due(15, "no room in a row", row(y, 0, 1, 0, 0, 0, 1, 1), 0);
        due(43, "which is fine", y.status(), 0);
    }

    private static void rows() {
        ScratchLadder x = stones(3);
        due(15, "empty", x.row(), -6);
        due(43, "status", x.status(), -6);
        due(15, "six bytes", row(x, 0, 1, 0, 0, 0, 1), 0);
        due(43, "status", x.status(), 0);
        due(42, "the tape", x.count(4), 0);
        due(15, "those that can be", row(x,
                0, 1, 2, 3, 3, 3, 200,
                3, 1, 0, 0, 0, 1, 0,
                0, 3, 0, 0, 0, 1, 0,
                1, 1, 0, 0, 0, 1, 0,
                0, 1, 3, 0, 0, 1, 0,
                0, 1, 0, 4, 0, 1, 0,
                0, 1, 0, 0, 4, 1, 0,
                0, 1, 0, 0, 0, 4, 0,
                255, 1, 0, 0, 0, 1, 0,
                2, 0, 0, 0, 0, 0, 77,
                1, 2, 0), 2);
        due(16, "the first", x.of(0, 6), 200);
        due(16, "its load", x.of(0, 7), 1);
        due(16, "the second", x.of(1, 0), 2);
        due(16, "a depth without a groove", x.of(1, 6), 77);
        due(42, "uses stay", x.count(3), 600);
        for (int i = 0; i < 118; i++) {
            row(x, 0, 1, 0, 0, 0, 1, 0);
        }
        due(42, "120", x.count(2), 120);
        ScratchLadder y = stones(2);
        for (int i = 0; i < 119; i++) {
            row(y, 0, 1, 0, 0, 0, 1, 0);
        }
        due(15, "room for one", row(y, 0, 1, 0, 0, 0, 1, 0, 1, 0, 0, 0, 0, 1, 0), 1);
    }

    private static void foundAndView() {
        ScratchLadder x = stones(3);
        row(x, 0, 1, 0, 0, 0, 2, 0, 1, 2, 1, 1, 1, 1, 9, 2, 0, 2, 2, 2, 3, 4, 0, 2, 0, 3, 3, 0, 0);
        for (int trial : new int[] {-1, 4, 120, LOW, HIGH}) {
            due(17, "no trial", x.found(trial), -2);
        }
        for (int trial = 1; trial < 4; trial++) {
            due(17, "no powder", x.found(trial), -3);
        }
        due(18, "all", x.view(7, 15, 15), 4);
        due(17, "powder", x.found(0), 0);
        due(17, "again", x.found(0), -3);
        due(16, "it fell out", x.of(0, 8), 1);
        due(18, "all but one", x.view(7, 15, 15), 3);
        due(19, "it says nothing", x.says(0, 1), 0);
        due(24, "it is not tried", x.untried(), 1);
        due(18, "a face", x.view(2, 15, 15), 1);
        due(18, "a way", x.view(7, 4, 15), 1);
        due(18, "two hands", x.view(7, 15, 12), 2);
        due(18, "nothing", x.view(1, 1, 15), 0);
        due(18, "the least", x.view(1, 1, 1), 0);
        int[][] bad = {{0, 1, 1}, {8, 1, 1}, {1, 0, 1}, {1, 16, 1}, {1, 1, 0}, {1, 1, 16},
            {-1, 1, 1}, {LOW, HIGH, 1}};
        for (int[] b : bad) {
            due(18, "bad", x.view(b[0], b[1], b[2]), -1);
        }
        due(43, "status", x.status(), -1);
        due(18, "it stays", x.says(1, 2), 0);
        x.view(2, 2, 2);
        due(19, "in view", x.says(1, 2), 1);
    }

    private static void saysAndOver() {
        ScratchLadder x = stones(4);
        row(x, 0, 1, 0, 0, 0, 1, 0, 0, 1, 0, 0, 0, 2, 0, 0, 1, 0, 0, 0, 3, 0, 0, 1, 0, 0, 0, 0, 0);
        due(19, "a groove and a powder", x.says(0, 1), 2);
        due(19, "the other way", x.says(1, 0), 0);
        due(19, "itself", x.says(1, 1), -1);
        due(19, "not there", x.says(0, 4), -1);
        due(19, "not there", x.says(-1, 0), -1);
        above(x, 1, 2);
        due(20, "over two", x.over(0, 2), 1);
        due(20, "under", x.over(2, 0), 0);
        due(20, "itself", x.over(0, 0), 0);
        due(23, "no ring", x.ring(0), 0);
        above(x, 2, 0);
        due(20, "in a ring", x.over(0, 0), 1);
        due(20, "beside it", x.over(3, 3), 0);
        due(20, "not there", x.over(4, 0), -1);
        due(20, "not there", x.over(0, HIGH), -1);
        due(23, "of three", x.ring(1), 3);
        above(x, 1, 0);
        due(23, "of two", x.ring(1), 2);
        due(23, "of two", x.ring(0), 2);
        due(23, "of three", x.ring(2), 3);
        due(23, "none", x.ring(3), 0);
        due(23, "not there", x.ring(4), -1);
        due(23, "not there", x.ring(LOW), -1);
        ScratchLadder y = stones(12);
        for (int i = 0; i < 12; i++) {
            above(y, i, (i + 1) % 12);
        }
        due(23, "of twelve", y.ring(5), 12);
    }

    private static void orders() {
        ScratchLadder x = stones(12);
        due(21, "of twelve", x.orders(), 479001600);
        due(22, "half of them", x.ahead(11, 0), 239500800);
        above(x, 0, 11);
        due(21, "half of them", x.orders(), 239500800);
        due(22, "none", x.ahead(11, 0), 0);
        due(22, "all", x.ahead(0, 11), 239500800);
        due(22, "a third one", x.ahead(0, 5), 159667200);
        due(22, "itself", x.ahead(3, 3), -1);
        due(22, "not there", x.ahead(3, 12), -1);
        due(22, "not there", x.ahead(-1, 3), -1);
        above(x, 11, 0);
        due(21, "a ring", x.orders(), 0);
        due(22, "a ring", x.ahead(1, 2), 0);
        due(24, "tried once", x.untried(), 65);
        ScratchLadder y = stones(3);
        due(24, "all", y.untried(), 3);
        row(y, 0, 1, 0, 0, 0, 0, 0, 2, 1, 1, 0, 0, 3, 0);
        due(24, "whatever it left", y.untried(), 1);
        due(21, "it says nothing", y.orders(), 6);
        y.view(1, 15, 15);
        due(24, "in view", y.untried(), 2);
    }

    private static void best() {
        ScratchLadder x = stones(4);
        due(26, "none yet", x.place(0), -1);
        due(27, "none yet", x.drop(0), -1);
        due(25, "no trials", x.best(), 0);
        for (int i = 0; i < 4; i++) {
            due(26, "the first as rows", x.place(i), i);
        }
        due(26, "beyond", x.place(4), -1);
        due(26, "below", x.place(-1), -1);
        above(x, 3, 0);
        above(x, 0, 1);
        above(x, 0, 1);
        above(x, 1, 3);
        due(26, "kept", x.place(0), 0);
        due(27, "against the kept one", x.drop(0), 0);
        due(27, "the first alone", x.drop(1), -1);
        due(25, "one of two", x.best(), 1);
        // 0 1 2 3 has 3 over 0 against it; 0 1 ahead of 3, 2 wherever it comes first.
        for (int i = 0; i < 4; i++) {
            due(26, "the ring is cut", x.place(i), i);
        }
        above(x, 3, 0);
        due(25, "two against one", x.best(), 1);
        int[] want = {2, 3, 0, 1};
        for (int i = 0; i < 4; i++) {
            due(26, "the lightest", x.place(i), want[i]);
        }
        due(27, "1 over 3", x.drop(0), 3);
        due(27, "no other", x.drop(1), -1);
        due(27, "below", x.drop(-1), -1);
        above(x, 1, 0);
        above(x, 1, 2);
        due(27, "the second of three", x.drop(1), 5);
        due(27, "the third of three", x.drop(2), 6);
        due(27, "no fourth", x.drop(3), -1);
        due(36, "says", x.slips(0, 0), 7);
        due(36, "against", x.slips(0, 1), 3);
        due(36, "another hand", x.slips(1, 0), 0);
        due(36, "no hand", x.slips(4, 0), -1);
        due(36, "no hand", x.slips(-1, 0), -1);
        due(36, "no what", x.slips(0, 2), -1);
        due(36, "no what", x.slips(0, -1), -1);
        x.view(2, 15, 15);
        due(27, "out of view", x.drop(0), -1);
        due(36, "out of view", x.slips(0, 0), 0);
        ScratchLadder w = stones(1);
        due(21, "of one", w.orders(), 1);
        due(25, "of one", w.best(), 0);
        due(26, "of one", w.place(0), 0);
        due(31, "of one", w.choice(1, 1), 1);
        due(31, "no pairs", w.choice(1, 0), 0);
        ScratchLadder y = stones(2);
        y.best();
        y.stone(5, 1, 1);
        above(y, 2, 0);
        due(27, "not in it", y.drop(0), -1);
        due(36, "not in it", y.slips(0, 1), 0);
        due(36, "but says", y.slips(0, 0), 1);
        due(25, "anew", y.best(), 0);
        due(26, "anew", y.place(2), 0);
        ScratchLadder v = stones(2);
        v.image(0);
        v.stone(5, 1, 1);
        v.best();
        v.back(0);
        v.best();
        v.stone(5, 1, 1);
        above(v, 2, 0);
        due(27, "no longer in it", v.drop(0), -1);
        due(36, "no longer in it", v.slips(0, 1), 0);
        ScratchLadder z = stones(12);
        for (int i = 0; i < 12; i++) {
            for (int j = 0; j < i; j++) {
                above(z, i, j);
            }
        }
        above(z, 0, 11);
        due(25, "of twelve", z.best(), 1);
        due(26, "upside down", z.place(0), 11);
        due(26, "upside down", z.place(11), 0);
        due(27, "the last", z.drop(0), 66);
    }

    private static void rungs() {
        ScratchLadder x = stones(7);
        due(28, "without a law", x.span(0, 0), 0);
        due(28, "without a law", x.span(0, 1), 1001);
        due(29, "without a law", x.settle(0), -1);
        rule(x, "rung 500 is 2;rung 100 is 0;rung 300 is 1;rung 700 is 3;rung 300 is 4;rung 9 is 9");
        due(28, "nothing is over it", x.span(6, 1), 1001);
        // 100 0, 300 1, 300 4, 500 2, 700 3: the middle is the third.
        due(29, "of five", x.settle(6), 4);
        above(x, 6, 0);
        due(28, "over 100", x.span(6, 0), 100);
        due(29, "of four: one more behind", x.settle(6), 4);
        above(x, 3, 6);
        due(28, "under 700", x.span(6, 1), 700);
        due(29, "of three", x.settle(6), 4);
        above(x, 2, 6);
        due(28, "the least", x.span(6, 1), 500);
        due(29, "of two", x.settle(6), 1);
        above(x, 6, 5);
        above(x, 5, 1);
        due(28, "through another", x.span(6, 0), 300);
        due(29, "of none", x.settle(6), -1);
        due(29, "not itself", x.settle(4), 1);
        due(28, "no stone", x.span(7, 0), -1);
        due(28, "no stone", x.span(-1, 0), -1);
        due(28, "no what", x.span(0, 2), -1);
        due(28, "no what", x.span(0, -1), -1);
        due(29, "no stone", x.settle(7), -1);
        due(29, "no stone", x.settle(LOW), -1);
        ScratchLadder v = stones(5);
        rule(v, "rung 1 is 0;rung 2 is 1;rung 3 is 2");
        due(29, "1, 2, 3", v.settle(4), 1);
        ScratchLadder z = stones(5);
        rule(z, "rung 8 is 0;rung 7 is 1;rung 6 is 2;rung 7 is 3");
        due(29, "6, 7, 7, 8", z.settle(4), 1);
        above(z, 4, 2);
        due(29, "7, 7, 8, as told", z.settle(4), 3);
        ScratchLadder y = stones(2);
        rule(y, "rung 1000 is 0;rung 0 is 0");
        due(29, "1000 is below 1001, 0 is not above 0", y.settle(1), 0);
        above(y, 0, 1);
        due(28, "0 is the least", y.span(1, 1), 0);
        above(y, 1, 0);
        due(28, "over itself", y.span(0, 0), 1000);
    }

    private static void fewest() {
        ScratchLadder x = stones(12);
        int[][] want = {{3, 1}, {7, 3}, {15, 5}, {31, 7}};
        for (int[] w : want) {
            due(30, "nothing known of " + w[0], x.fewest(w[0], 0), w[1]);
            due(30, "the first of " + w[0], x.fewest(w[0], 1), 1);
        }
        due(30, "the last two", x.fewest(3 << 10, 1), 131);
        due(30, "one alone", x.fewest(4, 0), -1);
        due(30, "six", x.fewest(63, 0), -1);
        due(30, "none", x.fewest(0, 0), -1);
        due(30, "not there", x.fewest(4097, 0), -1);
        due(30, "not there", x.fewest(-1, 0), -1);
        due(30, "not there", x.fewest(LOW + 1, 0), -1);
        due(30, "no what", x.fewest(3, 2), -1);
        due(30, "no what", x.fewest(3, -1), -1);
        above(x, 0, 1);
        due(30, "sorted", x.fewest(3, 0), 0);
        due(30, "none is needed", x.fewest(3, 1), -1);
        due(30, "a third one", x.fewest(7, 0), 2);
        due(30, "with either", x.fewest(7, 1), 2);
        due(30, "two pairs", x.fewest(15, 0), 4);
        // 0 over 2 leaves eight rows, which three trials sort: 1 and 2, then 3 among three.
        due(30, "0 and 2 first", x.fewest(15, 1), 2);
        due(30, "the first of five", x.fewest(31, 1), 2 * 12 + 3);
        above(x, 2, 5);
        above(x, 5, 3);
        due(30, "over through another", x.fewest(15, 0), 3);
        above(x, 9, 8);
        above(x, 8, 9);
        due(30, "a ring beside", x.fewest(7, 0), 2);
        due(30, "a ring among them", x.fewest(257, 0), -1);
        due(30, "a ring among them", x.fewest(257, 1), -1);
    }

    private static void choice() {
        ScratchLadder x = new ScratchLadder();
        int[] pieces = {5, 1, 1, 10, 10, 1};
        for (int i = 0; i < 6; i++) {
            x.stone(0, pieces[i], 0);
        }
        due(31, "no best", x.choice(1, 0), -1);
        x.best();
        // All pairs: (28 * 28 - 228) / 2 = 278. A rung at 3 leaves 5,1,1 and 10,1: 11 and 10.
        due(31, "one", x.choice(1, 0), 257);
        due(31, "the fourth", x.choice(1, 1), 8);
        // Rungs at 2 and 4 leave 5,1 alone: 5.
        due(31, "two", x.choice(2, 0), 273);
        due(31, "the third and the fifth", x.choice(2, 1), 20);
        due(31, "three", x.choice(3, 0), 278);
        due(31, "six", x.choice(6, 1), 63);
        due(31, "seven", x.choice(7, 0), -1);
        due(31, "none", x.choice(0, 0), -1);
        due(31, "thirteen", x.choice(13, 0), -1);
        due(31, "below", x.choice(LOW, 0), -1);
        due(31, "no what", x.choice(1, 2), -1);
        due(31, "no what", x.choice(1, -1), -1);
        ScratchLadder y = stones(3);
        above(y, 2, 1);
        above(y, 1, 0);
        y.best();
        due(31, "stones, not places", y.choice(2, 1), 6);
        y.image(0);
        y.stone(0, 50, 1);
        due(31, "the latest one's", y.choice(3, 0), 11);
        due(31, "not so many", y.choice(4, 0), -1);
        y.best();
        due(31, "now", y.choice(3, 0), 311);
        y.back(0);
        due(31, "more than there are", y.choice(1, 0), -1);
        due(26, "it stays", y.place(3), 3);
    }

    private static void dentsAndGrooves() {
        ScratchLadder x = stones(4);
        due(32, "without a law", x.dents(1, 2), 2);
        x.point(0, 3);
        x.point(1, 9);
        x.plane(2, 0, 0, 4);
        x.plane(3, 0, 1, 500);
        rule(x, "dent point*load+plane;dent 0 if hand>0;dent 255 if corner=3 and stone=3 and face+way=0 and load=9");
        int[] one = {3, 0, 2, 1};
        for (int i = 0; i < 4; i++) {
            due(32, "under 1", x.dents(1, i), one[i]);
        }
        due(32, "under 9", x.dents(9, 3), 3);
        due(32, "under 100: 255 at most, then by number", x.dents(100, 2), 0);
        due(32, "under 100", x.dents(100, 3), 1);
        due(32, "no load", x.dents(0, 0), -1);
        due(32, "no load", x.dents(101, 0), -1);
        due(32, "no place", x.dents(1, 4), -1);
        due(32, "no place", x.dents(1, -1), -1);
        due(33, "all without", x.grooves(2), 2);
        due(34, "without a best", x.otherwise(1), 0);
        rule(x, "cuts if load>1;deep load+corner;both if way=1");
        x.trial(0, 3, 0, 0, 0, 2);
        x.trial(1, 3, 0, 0, 0, 9);
        // 2 + 10 through 2 + 9: 109.
        x.trial(0, 2, 0, 0, 0, 50);
        // 100.
        x.trial(0, 1, 0, 1, 0, 50);
        x.trial(0, 1, 0, 0, 0, 1);
        due(33, "the least", x.grooves(0), 2);
        due(33, "both together", x.grooves(1), 3);
        due(33, "without", x.grooves(2), 0);
        due(33, "without", x.grooves(3), 1);
        due(33, "no place", x.grooves(4), -1);
        due(33, "no place", x.grooves(-1), -1);
        row(x, 3, 0, 0, 0, 0, 1, 2, 0, 1, 0, 0, 0, 2, 0);
        due(33, "a row's load is 1", x.grooves(2), 0);
        due(33, "powder is no groove", x.grooves(3), 1);
        row(x, 3, 0, 1, 0, 0, 1, 0);
        due(33, "100 too: by number", x.grooves(0), 0);
        due(33, "then the other", x.grooves(1), 2);
        x.view(1, 15, 15);
        due(33, "out of view", x.grooves(0), 2);
        x.view(7, 15, 15);
        due(34, "no load", x.otherwise(-1), -1);
        due(34, "no load", x.otherwise(101), -1);
    }

    private static void otherwise() {
        ScratchLadder x = stones(3);
        x.best();
        rule(x, "dent 9-corner*load");
        due(34, "upside down", x.otherwise(1), 3);
        due(34, "at 100 two are alike", x.otherwise(100), 2);
        due(34, "no grooves", x.otherwise(0), 0);
        row(x, 0, 2, 0, 0, 0, 1, 1);
        due(34, "by grooves", x.otherwise(0), 2);
        x.image(1);
        x.stone(0, 1, 1);
        due(34, "a new one is not in it", x.otherwise(1), 3);
        x.best();
        due(34, "now it is", x.otherwise(1), 6);
        x.back(1);
        due(34, "it is in the best, but not there", x.otherwise(1), 3);
    }

    private static void shapesAndGlass() {
        ScratchLadder x = stones(4);
        rule(x, "cuts if corner=0 and (stone=1 and face=2 and way>1 or stone=2 and way=face)"
                + ";cuts if corner=3 and stone=1 and face+way=0;cuts if load>1;cuts if hand>0");
        due(35, "two ways", x.shapes(0, 12), 2);
        due(35, "one way", x.shapes(0, 2), 4);
        due(35, "no way", x.shapes(0, 0), 10);
        due(35, "all ways", x.shapes(0, 15), 0);
        due(35, "not all of them", x.shapes(0, 4), 4);
        due(35, "not its own", x.shapes(1, 0), 13);
        due(35, "no stone", x.shapes(4, 0), -1);
        due(35, "no stone", x.shapes(-1, 0), -1);
        due(35, "no marks", x.shapes(0, 16), -1);
        due(35, "no marks", x.shapes(0, -1), -1);
        due(37, "who cuts 1", x.glass(2, 1, 0), 3);
        due(37, "without harm", x.glass(2, 1, 1), 0);
        due(37, "who cuts 2", x.glass(1, 2, 0), 0);
        due(37, "with harm", x.glass(1, 2, 1), 2);
        due(37, "a third one", x.glass(3, 1, 0), 0);
        due(37, "a third one", x.glass(0, 2, 0), -1);
        due(37, "a third one", x.glass(0, 2, 1), -1);
        due(37, "nobody", x.glass(1, 3, 0), -1);
        due(37, "the same", x.glass(1, 1, 0), -1);
        due(37, "no stone", x.glass(4, 1, 0), -1);
        due(37, "no stone", x.glass(1, -1, 0), -1);
        due(37, "no what", x.glass(1, 2, 2), -1);
        due(37, "no what", x.glass(1, 2, -1), -1);
        rule(x, "cuts");
        due(37, "the lowest", x.glass(0, 1, 0), 2);
        due(37, "twelve", x.glass(0, 1, 1), 12);
    }

    private static void names() {
        ScratchLadder x = new ScratchLadder();
        due(38, "no stones", x.called(0), -1);
        x.stone(4, 1, 1);
        due(38, "one", x.called(0), 1);
        due(38, "not wrong", x.called(2), 0);
        x.stone(4, 1, 1);
        x.stone(6, 1, 1);
        due(38, "all rows", x.called(0), 6);
        due(38, "wrong in all", x.called(1), 0);
        due(38, "wrong in some", x.called(2), 7);
        x.known(4, 10);
        x.known(6, 20);
        above(x, 0, 1);
        due(39, "alike", x.lose(), 1);
        // 0 has NAME 6 and 1 and 2 have 4, either's.
        due(38, "two rows", x.called(0), 2);
        due(38, "0 and 2 are wrong", x.called(1), 5);
        due(38, "the same number is the same", x.called(2), 5);
        x.known(6, 5);
        due(38, "1 has the least", x.called(0), 2);
        due(38, "0 is right: its own or 1's", x.called(1), 6);
        above(x, 1, 0);
        due(38, "a ring", x.called(0), 0);
        due(38, "a ring", x.called(1), 0);
        due(38, "a ring", x.called(2), 0);
        due(39, "alike both ways", x.lose(), 2);
        above(x, 2, 0);
        due(39, "otherwise", x.lose(), 3);
        above(x, 0, 2);
        due(39, "as known", x.lose(), 3);
        x.view(2, 15, 15);
        due(39, "out of view", x.lose(), 0);
        due(38, "out of view", x.called(0), 6);
        due(38, "no what", x.called(3), -1);
        due(38, "no what", x.called(-1), -1);
        ScratchLadder y = stones(8);
        due(38, "8 stones", y.called(0), 40320);
        for (int i = 0; i < 8; i++) {
            y.known(i, 100 + i);
        }
        above(y, 7, 6);
        due(38, "half", y.called(0), 20160);
        y.stone(0, 1, 1);
        due(38, "9 stones", y.called(0), -1);
        ScratchLadder z = stones(2);
        z.known(0, 3);
        z.known(1, 3);
        due(38, "another name of one number is wrong", z.called(2), 3);
        due(38, "but not in all", z.called(1), 0);
        above(z, 0, 1);
        due(38, "no rows", z.called(2), 0);
    }

    private static void images() {
        ScratchLadder x = stones(2);
        for (int k : new int[] {-1, 2, LOW, HIGH}) {
            due(40, "no image", x.image(k), -1);
            due(41, "no image", x.back(k), -1);
        }
        due(43, "status", x.status(), -1);
        due(41, "not kept", x.back(0), -2);
        due(43, "status", x.status(), -2);
        x.point(0, 1);
        x.plane(0, 1, 1, 2);
        x.known(3, 4);
        x.hand(2, 100, 0);
        x.seed(5);
        rule(x, "cuts");
        x.trial(0, 1, 0, 0, 0, 1);
        row(x, 1, 0, 0, 0, 0, 2, 0);
        x.view(1, 15, 15);
        due(40, "kept", x.image(0), 0);
        x.stone(7, 7, 7);
        x.point(0, 900);
        x.point(2, 900);
        x.plane(2, 1, 1, 900);
        x.plane(0, 1, 1, 900);
        x.known(3, 900);
        x.hand(2, 0, 100);
        rule(x, "both");
        x.trial(0, 1, 0, 0, 2, 1);
        x.found(1);
        x.view(7, 15, 15);
        x.best();
        write(x, "x");
        x.feed(0, 0, 0, 0, 0);
        due(40, "the other", x.image(1), 0);
        due(41, "back", x.back(0), 0);
        due(43, "status", x.status(), 0);
        due(41, "the tape stays", x.count(4), 20);
        due(41, "the fault stays", x.fault(), 0);
        due(41, "the best stays", x.place(2), 2);
        due(41, "stones", x.count(0), 2);
        due(41, "texts", x.count(1), 1);
        due(41, "trials", x.count(2), 2);
        due(41, "uses", x.count(3), 399);
        due(41, "fell out", x.of(1, 8), 0);
        due(41, "point", x.point(0, 1), 1);
        due(41, "plane", x.plane(0, 1, 1, 2), 2);
        due(41, "known", x.known(3, 4), 4);
        due(41, "hand: it slips", x.trial(0, 1, 1, 0, 2, 1), 0);
        due(41, "view", x.untried(), 0);
        due(41, "a trial out of view", x.says(0, 1), 1);
        due(41, "law", x.law(0), 0);
        due(2, "a new one", x.stone(1, 1, 1), 2);
        due(4, "is new", x.point(2, 0), 0);
        due(3, "is new", x.plane(2, 1, 1, 0), 0);
        x.end(0);
        rule(x, "deep 1");
        due(41, "to the other", x.back(1), 0);
        due(41, "its law", x.law(0), 1);
        due(41, "its texts", x.cuts(0, 1, 0, 0), 1);
        due(41, "its stone", x.point(2, 0), 900);
        due(41, "fell out", x.of(1, 8), 1);
        due(41, "images stay", x.back(0), 0);
        due(41, "stones", x.count(0), 2);
        // Draws go back too: 5 * 1103 + 12345 = 17860, below 61.
        x.hand(1, 0, 61);
        rule(x, "rung 1 is 1");
        due(41, "draws", x.trial(0, 1, 0, 0, 1, 1), 2);
        ScratchLadder y = new ScratchLadder();
        y.known(1, 10);
        y.known(2, 20);
        y.image(0);
        y.stone(1, 2, 1);
        y.stone(2, 3, 1);
        above(y, 1, 0);
        y.view(1, 1, 1);
        rule(y, "rung 5 is 0");
        y.image(1);
        y.back(0);
        y.stone(2, 50, 1);
        y.stone(1, 60, 1);
        y.view(6, 14, 14);
        y.law(write(y, "cuts"));
        y.back(1);
        y.best();
        due(41, "names", y.lose(), 0);
        due(41, "pieces", y.choice(1, 0), 6);
        due(41, "the text of that number", y.span(1, 0), 5);
        due(41, "view", y.says(1, 0), 1);
    }

    /** Each call with as many STONES and TRIALS as there can be. */
    private static void full() {
        ScratchLadder x = stones(12);
        for (int i = 0; i < 120; i++) {
            row(x, i % 12, (i + 1 + i / 12) % 12, 2, 3, 3, 1, 255);
        }
        rule(x, "cuts;dent 1;rung 1 is 11");
        due(42, "trials", x.count(2), 120);
        due(42, "uses", x.count(3), 2400);
        due(16, "the last", x.of(119, 1), (11 + 1 + 9) % 12);
        due(18, "all count", x.view(7, 15, 15), 120);
        due(18, "none counts", x.view(3, 15, 15), 0);
        x.best();
        x.view(7, 15, 15);
        due(27, "none behind the last", x.drop(120), -1);
        int against = x.slips(3, 1);
        due(36, "all say something", x.slips(3, 0), 120);
        due(27, "the last one against", x.drop(against - 1) >= 0 ? 1 : 0, 1);
        due(27, "no more", x.drop(against), -1);
        due(39, "alike all", x.lose(), 120);
        due(32, "the last", x.dents(1, 11), 11);
        due(33, "the last", x.grooves(11), 11);
        due(34, "none", x.otherwise(0) + x.otherwise(1), 0);
        due(35, "all but one", x.shapes(11, 15), 2047);
        due(37, "the lowest", x.glass(11, 10, 0), 0);
        due(23, "the ring", x.ring(11), 2);
        due(20, "over all", x.over(11, 11), 1);
        due(21, "none fits", x.orders(), 0);
        due(24, "all of them tried", x.untried(), 0);
        due(31, "all", x.choice(12, 1), 4095);
        due(28, "in a ring", x.span(11, 0) * 10000 + x.span(11, 1), 10001);
        due(30, "over itself", x.fewest(31, 0), -1);
        due(38, "too many", x.called(0), -1);
        due(41, "kept and back", x.image(1) + x.back(1), 0);
        due(26, "the last", x.place(11), 11);
    }

    private static void countAndStatus() {
        ScratchLadder x = stones(3);
        for (int what : new int[] {-1, 5, LOW, HIGH}) {
            due(42, "no what", x.count(what), -1);
        }
        due(42, "uses", x.count(3), 600);
        x.law(5);
        x.feed(0, 0, 0, 0, 0);
        x.end(99);
        x.cuts(9, 9, 9, 9);
        x.of(9, 9);
        x.best();
        x.fault();
        due(43, "these don't change it", x.status(), -2);
        x.row();
        due(43, "this does", x.status(), 0);
        x.view(0, 0, 0);
        due(43, "-1", x.status(), -1);
        x.known(0, 0);
        due(43, "0", x.status(), 0);
        x.found(3);
        due(43, "-2", x.status(), -2);
        x.hand(0, 0, 0);
        due(43, "0", x.status(), 0);
        x.trial(1, 1, 0, 0, 0, 1);
        due(43, "-3", x.status(), -3);
        x.seed(0);
        due(43, "0", x.status(), 0);
        x.image(5);
        due(43, "-1", x.status(), -1);
        x.point(0, 0);
        due(43, "0", x.status(), 0);
        x.back(1);
        due(43, "-2", x.status(), -2);
        x.plane(0, 0, 0, 0);
        due(43, "0", x.status(), 0);
        x.text();
        due(43, "-6", x.status(), -6);
        x.trial(0, 1, 0, 0, 0, 1);
        due(43, "0", x.status(), 0);
    }

    public static void main(String[] args) {
        newObject();
        stone();
        planeAndPoint();
        knownHandSeed();
        draws();
        tapes();
        texts();
        textRoom();
        laws();
        cuts();
        trials();
        rows();
        foundAndView();
        saysAndOver();
        orders();
        best();
        rungs();
        fewest();
        choice();
        dentsAndGrooves();
        otherwise();
        shapesAndGlass();
        names();
        images();
        full();
        countAndStatus();
        System.out.println(asked + " answers, " + wrong + " of them not as due");
        if (wrong > 0) {
            System.exit(1);
        }
    }
}
