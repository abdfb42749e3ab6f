/** Promises 8, 15, 16: hours that go by, the book, and how hours go in thought. */
public final class HoursTest {
    public static void main(String[] args) {
        bounds();
        draws();
        order();
        sky();
        evening();
        bookEnds();
        over();
        goes();
        goesBounds();
        Due.finish();
    }

    private static int draw(int state) {
        return 1664525 * state + 1013904223;
    }

    private static int drawn(int state) {
        return (int) ((state & 0xffffffffL) >> 8) % 1000;
    }

    private static void bounds() {
        ThumbBallot x = new ThumbBallot();
        int[] no = {0, -1, 61, Integer.MIN_VALUE, Integer.MAX_VALUE};
        for (int n : no) {
            Due.is("hours " + n, x.hours(n), -1);
        }
        Due.is("hour", x.look(3), 0);
        Due.is("kept", x.look(13), 0);
        Due.is("hours 60", x.hours(60), 0);
        Due.is("day", x.look(4), 5);
        Due.is("hour", x.look(3), 0);
        Due.is("hours 11", x.hours(11), 0);
        Due.is("hour", x.look(3), 11);
        Due.is("day", x.look(4), 5);
        Due.is("hours 1", x.hours(1), 0);
        Due.is("hour", x.look(3), 0);
        Due.is("day", x.look(4), 6);
        Due.is("failed", x.look(6), 6);
        Due.is("no draws", x.look(8), 0);
    }

    /** A draw is made only where it is asked: comes above 0, melts above 0. */
    private static void draws() {
        ThumbBallot x = new ThumbBallot();
        x.voter(0, 1, 5, 4);
        x.voter(0, 0, 5, 4);
        x.voter(0, -1, 5, 4);
        x.hand(2, 1);
        Due.reads(x, 1, "voter 0 at 0 to 1;voter 1 at 0 to 1;voter 2 at 0 to 1;voter 0 at 1 to 2;", 4);
        int state = 0;
        x.state(state);
        state = draw(state);
        boolean comes = drawn(state) < 700;
        Due.is("comes", x.hours(1), comes ? 1 : 0);
        Due.is("one draw", x.look(8), state);
        Due.reads(x, 0, "comes 0;melts 0;", 2);
        Due.is("nobody", x.hours(1), 0);
        Due.is("no draw", x.look(8), state);
        for (int chance = 1; chance <= 1000; chance += 111) {
            x = new ThumbBallot();
            x.voter(0, 1, 5, 4);
            Due.reads(x, 1, "voter 0 at 0 to 1;voter 0 at 0 to 1;voter 0 at 0 to 1;", 3);
            Due.reads(x, 0, "melts 0;comes " + chance + ";", 2);
            state = 12345 + chance;
            x.state(state);
            int left = 0;
            for (int i = 0; i < 3; i++) {
                state = draw(state);
                left += drawn(state) < chance ? 1 : 0;
            }
            Due.is("left", x.hours(1), left);
            Due.is("state", x.look(8), state);
            Due.is("came", x.of(0, 5), left);
        }
    }

    /** First the sky, then the ways, then it melts, the lower and the first cells first. */
    private static void order() {
        ThumbBallot x = new ThumbBallot();
        x.voter(0, 1, 0, 0);
        x.voter(0, -1, 0, 0);
        Due.reads(x, 0, "comes 1000;melts 1000 when beside>0;melts 0;", 3);
        Due.reads(x, 1, "voter 0 at 0 to 3;voter 1 at 0 to 4;voter 1 at 0 to 6;", 3);
        Due.reads(x, 2, "on 0 mind 1 for;on 0 heat 7 at 0;on 0 heat 2 at 1;on 1 heat 9 at 1;", 4);
        Due.is("left", x.hours(1), 3);
        Due.is("heat", x.look(2), 7);
        Due.is("mind", x.of(1, 1), 1);
        Due.is("the first is gone", x.cell(0, 3, 0), -1);
        Due.is("so the second stays", x.cell(0, 4, 0), 1);
        Due.is("up", x.cell(0, 4, 1), 1);
        Due.is("marks", x.look(1), 2);
        Due.is("book", x.look(7), 4);
        Due.is("gone by heat", x.book(3, 2), 2);
        Due.is("whose", x.book(3, 3), 0);
        Due.is("where", x.book(3, 4), 3);
        Due.is("hour", x.book(3, 1), 0);
        x.hours(1);
        Due.is("heat", x.look(2), 2);
        x.hours(11);
        Due.is("heat stays", x.look(2), 2);
        x.hours(1);
        Due.is("heat of day 1", x.look(2), 9);
    }

    private static void sky() {
        ThumbBallot x = new ThumbBallot();
        x.voter(0, 1, 3, 0);
        x.press(0, 7);
        x.press(0, 7);
        x.press(0, 7);
        Due.reads(x, 0, "melts 0;comes 1000;", 2);
        Due.reads(x, 2, "on 0 putty at 1 7 1;on 0 putty at 1 7 3;on 0 mind 0 none;on 0 mind 0 against;"
                + "on 0 putty at 0 1 7;", 5);
        x.hours(1);
        Due.is("the last mind told", x.of(0, 1), -1);
        ThumbBallot y = new ThumbBallot();
        y.voter(0, 1, 3, 0);
        Due.reads(y, 2, "on 0 mind 0 none;", 1);
        y.hours(1);
        Due.is("none", y.of(0, 1), 0);
        Due.is("marks", x.look(1), 3);
        Due.is("book", x.look(7), 3);
        x.set(1, 0, 1);
        x.hours(1);
        Due.is("minds at hour 0 alone", x.of(0, 1), 1);
        Due.is("marks", x.look(1), 2);
        Due.is("putty", x.cell(1, 7, 0), -1);
        Due.is("book", x.look(7), 4);
        Due.is("lifted", x.book(3, 2), 3);
        Due.is("whose", x.book(3, 3), 0);
        Due.is("where", x.book(3, 4), 19);
        Due.is("hour", x.book(3, 1), 1);
        x.hours(10);
        x.hours(2);
        Due.is("not on another day", x.of(0, 1), 1);
        // one who has no mind, or is gloved, does not come
        Due.reads(x, 1, "voter 0 at 3 to 0;", 1);
        x.hand(0, 1);
        x.hours(2);
        Due.is("gloved", x.look(1), 0);
    }

    private static void evening() {
        ThumbBallot x = new ThumbBallot();
        x.voter(0, 1, 11, 6);
        x.voter(0, -1, 11, 4);
        Due.reads(x, 0, "melts 0;weighs depth+90 when hour=0;", 2);
        x.press(0, 0);
        x.press(1, 1);
        Due.is("looks", x.wax(0), 1);
        x.hours(11);
        Due.is("looks", x.wax(0), 1);
        Due.is("marks", x.look(1), 2);
        Due.is("passed", x.look(5), 0);
        x.hours(1);
        Due.is("passed", x.look(5), 1);
        Due.is("failed", x.look(6), 0);
        Due.is("bare", x.look(1), 0);
        Due.is("book", x.look(7), 3);
        int[] due = {0, 11, 4, -1, 1};
        for (int what = 0; what < 5; what++) {
            Due.is("read " + what, x.book(2, what), due[what]);
        }
        x.press(1, 1);
        x.hours(12);
        Due.is("failed", x.look(6), 1);
        Due.is("sum", x.book(4, 4), -3);
        Due.is("day", x.book(4, 0), 1);
        Due.is("who pressed on day 1", x.book(3, 0), 1);
        x.press(0, 0);
        x.press(1, 1);
        x.press(1, 2);
        x.set(3, 1, 0);
        Due.reads(x, 0, "melts 0;weighs 2 when mind>0;weighs 1;", 3);
        x.hours(12);
        Due.is("0 is not above 0", x.look(6), 2);
        Due.is("sum", x.book(8, 4), 0);
        Due.is("came stays", x.of(1, 5), 4);
        // the law at the reading sees hour 11
        x.press(0, 0);
        Due.reads(x, 0, "melts 0;weighs 5*hour+day when hour=11;weighs 1;", 3);
        x.hours(12);
        Due.is("hour 11 yet", x.book(10, 4), 58);
    }

    private static void bookEnds() {
        ThumbBallot x = new ThumbBallot();
        Due.is("none", x.book(0, 0), -10000);
        x.voter(0, 1, 0, 0);
        for (int i = 0; i < 149; i++) {
            x.press(0, i % 12);
        }
        Due.is("lines", x.look(7), 149);
        Due.is("none yet", x.book(149, 0), -10000);
        x.press(0, 7);
        Due.is("lines", x.look(7), 150);
        Due.is("last", x.book(149, 4), 7);
        x.press(0, 8);
        Due.is("no more", x.look(7), 150);
        Due.is("none", x.book(150, 0), -10000);
        Due.is("last", x.book(149, 4), 7);
        Due.is("still it came", x.of(0, 5), 151);
        Due.yes("undo", x.undo());
        Due.is("lines", x.look(7), 150);
        Due.yes("undo", x.undo());
        Due.is("lines", x.look(7), 149);
        x.press(0, 9);
        Due.is("another last", x.book(149, 4), 9);
        Due.is("i", x.book(-1, 0), -10000);
        Due.is("what", x.book(0, 5), -10000);
        Due.is("what", x.book(0, -1), -10000);
    }

    private static void over() {
        ThumbBallot x = new ThumbBallot();
        x.voter(0, 1, 1, 9);
        x.voter(0, -1, 0, 9);
        Due.reads(x, 0, "comes 1000;melts 0;", 2);
        Due.reads(x, 1, "voter 0 at 0 to 2;voter 1 at 0 to 2;voter 0 at 0 to 2;voter 0 at 0 to 2;", 4);
        Due.is("left", x.hours(1), 4);
        Due.is("marks", x.look(1), 2);
        int[][] due = {{0, 0, 2}, {1, 1, 2}, {0, 0, 14}, {1, 0, 14}};
        for (int i = 0; i < 4; i++) {
            for (int what = 0; what < 3; what++) {
                Due.is("book " + i, x.book(i, what + 2), due[i][what]);
            }
        }
        Due.is("whose", x.cell(0, 2, 0), 1);
        Due.is("down", x.cell(0, 2, 1), -1);
    }

    private static void goes() {
        ThumbBallot x = new ThumbBallot();
        x.voter(0, 1, 11, 6);
        x.voter(0, -1, 11, 0);
        Due.reads(x, 1, "voter 0 at 1 to 2;voter 1 at 2 to 3;voter 1 at 2 to 3;", 3);
        Due.reads(x, 2, "on 1 mind 0 against;on 0 heat 8 at 5;on 1 heat 0 at 0;", 3);
        Due.reads(x, 0, "comes 499 when day=0 and hour=2 and came=9;comes 500;", 2);
        x.state(99);
        x.press(0, 0);
        int[][] due = {
            {1, 0, 1, 4, 1}, {2, 0, 2, 8, 2}, {3, 0, 4, 6, 4}, {5, 0, 4, 6, 4}, {6, 0, 2, 6, 4}, {7, 0, 2, 4, 4},
            {8, 0, 2, 2, 4}, {9, 0, 0, 0, 4}, {12, 0, 0, 0, 4}, {14, 0, 1, -4, 5}, {24, 0, 0, 0, 7}};
        for (int[] d : due) {
            for (int what = 0; what < 4; what++) {
                Due.is("goes " + d[0] + " " + what, x.goes(d[0], what), d[what + 1]);
            }
        }
        Due.is("nothing stays", x.look(1), 1);
        Due.is("state", x.look(8), 99);
        Due.is("heat", x.look(2), 0);
        Due.is("day", x.look(4), 0);
        Due.is("book", x.look(7), 1);
        Due.is("mind", x.of(0, 1), 1);
        Due.is("kept", x.look(13), 1);
        Due.reads(x, 0, "comes 499;melts 499;", 2);
        Due.is("nobody comes, nothing melts", x.goes(11, 1), 1);
        Due.is("passed", x.goes(12, 0), 1);
        Due.is("twice 0", x.goes(24, 0), 1);
        x.hours(12);
        Due.is("passed before, too", x.goes(1, 0), x.look(5));
        Due.reads(x, 0, "comes 0-5;melts 500;", 2);
        x.press(0, 0);
        Due.is("of depth 4, after 3 hours", x.goes(3, 2), 1);
        Due.is("after 4", x.goes(4, 1), 0);
    }

    private static void goesBounds() {
        ThumbBallot x = new ThumbBallot();
        int[] no = {0, -1, 61, Integer.MIN_VALUE, Integer.MAX_VALUE};
        for (int n : no) {
            Due.is("n " + n, x.goes(n, 0), -100000);
        }
        Due.is("what", x.goes(1, 4), -100000);
        Due.is("what", x.goes(1, -1), -100000);
        Due.is("60", x.goes(60, 0), 0);
    }
}
