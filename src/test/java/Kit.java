import java.io.IOException;
import java.nio.charset.StandardCharsets;
import java.nio.file.Files;
import java.nio.file.Path;

/**
 * What the tests of the document's edges share. Each of their parts begins with the sentence of
 * the document that it is about, word for word; that the sentence stands there is looked at too.
 */
final class Kit {
    static final int LOW = Integer.MIN_VALUE;
    static final int HIGH = Integer.MAX_VALUE;
    private static final Path DOCUMENT = Path.of("../shared/DOC.md");
    private static final String WORDS = words();
    private static String sentence = "";
    private static int sentences = 0;
    private static int asked = 0;
    private static int wrong = 0;

    private Kit() {
    }

    /** Without the document there is nothing to look a sentence up in; the answers are due still. */
    private static String words() {
        try {
            return Files.readString(DOCUMENT);
        } catch (IOException unread) {
            return "";
        }
    }

    /** What follows is about this sentence of the document. */
    static void sentence(String words) {
        sentence = words;
        sentences++;
        if (!WORDS.isEmpty() && !WORDS.contains(words)) {
            wrong++;
            System.out.println("not in the document: " + words);
        }
    }

    static void due(String what, int got, int want) {
        asked++;
        if (got != want) {
            wrong++;
            System.out.println(sentence + "\n  " + what + " answered " + got + ", due is " + want);
        }
    }

    /** The answers to the same question, one after another. */
    static void dueRow(String what, int[] got, int... want) {
        due(what + ": how many", got.length, want.length);
        for (int i = 0; i < Math.min(got.length, want.length); i++) {
            due(what + " (" + i + ")", got[i], want[i]);
        }
    }

    /** Bytes come on the TAPE behind what it has. */
    static void tape(ScratchLadder x, byte[] bytes) {
        int has = x.count(4);
        for (int at = 0; at < bytes.length; at += 20) {
            int[] fours = new int[5];
            for (int i = 0; i < 20; i++) {
                fours[i / 4] = fours[i / 4] << 8 | (at + i < bytes.length ? bytes[at + i] & 255 : 0);
            }
            x.feed(fours[0], fours[1], fours[2], fours[3], fours[4]);
        }
        x.end(has + bytes.length);
    }

    static void tape(ScratchLadder x, String text) {
        tape(x, text.getBytes(StandardCharsets.ISO_8859_1));
    }

    static int write(ScratchLadder x, String text) {
        tape(x, text);
        return x.text();
    }

    /** A TEXT that must be one becomes the LAW. */
    static void rule(ScratchLadder x, String text) {
        int number = write(x, text);
        due("the text " + text, number >= 0 ? 0 : number, 0);
        x.law(number);
    }

    /** A ROW of TRIALS, seven numbers each. */
    static int row(ScratchLadder x, int... numbers) {
        byte[] bytes = new byte[numbers.length];
        for (int i = 0; i < numbers.length; i++) {
            bytes[i] = (byte) numbers[i];
        }
        tape(x, bytes);
        return x.row();
    }

    /** GROOVES on FACE 0 along WAY 0 by HAND 0 that SAY that the first of each two is above. */
    static void above(ScratchLadder x, int... pairs) {
        for (int i = 0; i + 1 < pairs.length; i += 2) {
            due("a row of one", row(x, pairs[i], pairs[i + 1], 0, 0, 0, 1, 0), 1);
        }
    }

    /** STONES with NAMES 0, 1, .. and PIECES 1, 2, .. and 200 USES. */
    static ScratchLadder stones(int many) {
        ScratchLadder x = new ScratchLadder();
        for (int i = 0; i < many; i++) {
            due("stone " + i, x.stone(i, i + 1, 200), i);
        }
        return x;
    }

    /** So many TRIALS that leave NOTHING, on the first two STONES. */
    static void fill(ScratchLadder x, int trials) {
        int[] fifty = new int[350];
        for (int i = 0; i < 50; i++) {
            fifty[7 * i + 1] = 1;
        }
        for (int left = trials; left > 0; left -= 50) {
            row(x, java.util.Arrays.copyOf(fifty, 7 * Math.min(50, left)));
        }
    }

    static int[] places(ScratchLadder x, int many) {
        int[] row = new int[many];
        for (int i = 0; i < many; i++) {
            row[i] = x.place(i);
        }
        return row;
    }

    /** What is told at the end of a test; it fails if an answer was not as due. */
    static void end() {
        System.out.println(sentences + " sentences, " + asked + " answers, " + wrong
                + " of them not as due");
        if (wrong > 0) {
            System.exit(1);
        }
    }
}
