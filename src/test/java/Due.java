import java.nio.charset.StandardCharsets;

/** Counts answers that are not as due, and tells texts to a ballot. */
final class Due {
    private static final int MULTIPLIER = 1664525;
    private static final int ADDEND = 1013904223;
    private static int wrong = 0;
    private static int asked = 0;
    private static String sentence = "";

    private Due() {
    }

    /** The sentence of the document that the following calls are about. */
    static void says(String said) {
        sentence = "'" + said + "': ";
    }

    static void is(String call, long got, long want) {
        asked++;
        if (got != want) {
            wrong++;
            System.out.println(sentence + call + " answered " + got + ", due is " + want);
        }
    }

    static void is(String call, boolean got, boolean want) {
        is(call, got ? 1 : 0, want ? 1 : 0);
    }

    static void yes(String call, boolean got) {
        is(call, got, true);
    }

    static void no(String call, boolean got) {
        is(call, got, false);
    }

    /** All that is seen of a ballot without telling it anything: some 70 calls. */
    static int[] seen(ThumbBallot x) {
        int[] seen = new int[57];
        int n = 0;
        for (int what = 0; what <= 13; what++) {
            seen[n++] = x.look(what);
        }
        for (int what = 0; what <= 9; what++) {
            seen[n++] = x.wax(what);
        }
        for (int what = 0; what <= 7; what++) {
            seen[n++] = x.of(0, what);
            seen[n++] = x.of(1, what);
        }
        for (int column = 0; column < 12; column++) {
            seen[n++] = x.cell(0, column, 0) * 100 + x.cell(0, column, 2);
        }
        int last = x.look(7) - 1;
        for (int what = 0; what < 5; what++) {
            seen[n++] = x.book(last, what);
        }
        return seen;
    }

    static void same(String call, int[] is, int[] was) {
        for (int i = 0; i < was.length; i++) {
            is(call + " leaves all as it was, " + i, is[i], was[i]);
        }
    }

    /** The state behind one draw. */
    static int drawn(int state) {
        return (int) ((long) MULTIPLIER * state + ADDEND);
    }

    /** What a draw of 1000 answers if the state is that behind it. */
    static int ofThousand(int state) {
        return (int) (Integer.toUnsignedLong(state) / 256 % 1000);
    }

    /** The state whose next draw makes it this one. */
    static int ahead(int state) {
        int inverse = 1;
        for (int i = 0; i < 6; i++) {
            inverse *= 2 - MULTIPLIER * inverse;
        }
        return (state - ADDEND) * inverse;
    }

    static void finish() {
        System.out.println(wrong == 0 ? asked + " answers are as due" : wrong + " answers are not as due");
        if (wrong != 0 || asked == 0) {
            System.exit(1);
        }
    }

    /** Feeds the text, padded with blanks and cut again. */
    static void feed(ThumbBallot x, String text) {
        byte[] bytes = text.getBytes(StandardCharsets.ISO_8859_1);
        byte[] padded = java.util.Arrays.copyOf(bytes, (bytes.length + 19) / 20 * 20);
        for (int i = 0; i < padded.length; i += 20) {
            java.nio.ByteBuffer four = java.nio.ByteBuffer.wrap(padded, i, 20);
            is("feed", x.feed(four.getInt(), four.getInt(), four.getInt(), four.getInt(), four.getInt()), i + 20);
        }
        yes("end", x.end(bytes.length));
    }

    static int text(ThumbBallot x, int k, String text) {
        feed(x, text);
        return x.text(k);
    }

    static void reads(ThumbBallot x, int k, String text, int lines) {
        is("text " + k + " '" + text + "'", text(x, k, text), lines);
        is("fault(0) of '" + text + "'", x.fault(0), 0);
        is("fault(1) of '" + text + "'", x.fault(1), -1);
    }

    static void faulty(ThumbBallot x, int k, String text, int fault, int place) {
        int lines = x.look(9 + k);
        is("text " + k + " '" + text + "'", text(x, k, text), -1);
        is("fault(0) of '" + text + "'", x.fault(0), fault);
        is("fault(1) of '" + text + "'", x.fault(1), place);
        is("lines after '" + text + "'", x.look(9 + k), lines);
    }
}
