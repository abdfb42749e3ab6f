import java.nio.charset.StandardCharsets;

/** Counts answers that are not as due, and tells texts to a ballot. */
final class Due {
    private static int wrong = 0;
    private static int asked = 0;

    private Due() {
    }

    static void is(String call, long got, long want) {
        asked++;
        if (got != want) {
            wrong++;
            System.out.println(call + " answered " + got + ", due is " + want);
        }
    }

    static void is(String call, boolean got, boolean want) {
        is(call, got ? 1 : 0, want ? 1 : 0);
    }

    static void yes(String call, boolean got) {
        is(call, got, true);
    }

    static void no(String call, boolean got) {
        is(call, got, false);
    }

    static void finish() {
        System.out.println(wrong == 0 ? asked + " answers are as due" : wrong + " answers are not as due");
        if (wrong != 0 || asked == 0) {
            System.exit(1);
        }
    }

    /** Feeds the text, padded with blanks and cut again. */
    static void feed(ThumbBallot x, String text) {
        byte[] bytes = text.getBytes(StandardCharsets.ISO_8859_1);
        byte[] padded = java.util.Arrays.copyOf(bytes, (bytes.length + 19) / 20 * 20);
        for (int i = 0; i < padded.length; i += 20) {
            java.nio.ByteBuffer four = java.nio.ByteBuffer.wrap(padded, i, 20);
            is("feed", x.feed(four.getInt(), four.getInt(), four.getInt(), four.getInt(), four.getInt()), i + 20);
        }
        yes("end", x.end(bytes.length));
    }

    static int text(ThumbBallot x, int k, String text) {
        feed(x, text);
        return x.text(k);
    }

    static void reads(ThumbBallot x, int k, String text, int lines) {
        is("text " + k + " '" + text + "'", text(x, k, text), lines);
        is("fault(0) of '" + text + "'", x.fault(0), 0);
        is("fault(1) of '" + text + "'", x.fault(1), -1);
    }

    static void faulty(ThumbBallot x, int k, String text, int fault, int place) {
        int lines = x.look(9 + k);
        is("text " + k + " '" + text + "'", text(x, k, text), -1);
        is("fault(0) of '" + text + "'", x.fault(0), fault);
        is("fault(1) of '" + text + "'", x.fault(1), place);
        is("lines after '" + text + "'", x.look(9 + k), lines);
    }
}
