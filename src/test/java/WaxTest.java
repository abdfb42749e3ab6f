/** Promises 5 to 7, 14, 17: thumbs by hand, lifting, hands, what a cell is, what lies on the wax. */
public final class WaxTest {
    public static void main(String[] args) {
        press();
        lift();
        hand();
        cell();
        looksAndTurned();
        lies();
        holes();
        face();
        bare();
        full();
        Due.finish();
    }

    private static ThumbBallot two() {
        ThumbBallot x = new ThumbBallot();
        x.voter(1, 1, 11, 9);
        x.voter(2, -1, 11, 0);
        return x;
    }

    /** Puts voter's mark on just that cell, by a height of that row and marks below that are lifted again. */
    static void put(ThumbBallot x, int voter, int row, int column) {
        boolean[] below = new boolean[12];
        for (int i = 0; i < row; i++) {
            below[i] = x.cell(i, column, 2) > 0;
        }
        x.set(2, voter, row);
        for (int i = 0; i <= row; i++) {
            if (x.cell(row, column, 2) == 0) {
                x.press(voter, column);
            }
        }
        for (int i = 0; i < row; i++) {
            if (!below[i]) {
                x.lift(i, column);
            }
        }
        Due.is("put", x.cell(row, column, 0), voter);
    }

    private static void press() {
        ThumbBallot x = new ThumbBallot();
        Due.is("no voter", x.press(0, 0), -1);
        x.voter(0, 1, 1, 9);
        x.voter(0, 0, 1, 9);
        Due.is("no voter", x.press(2, 0), -1);
        Due.is("no voter", x.press(-1, 0), -1);
        Due.is("no column", x.press(0, 12), -1);
        Due.is("no column", x.press(0, -1), -1);
        Due.is("no mind", x.press(1, 0), -1);
        Due.is("nothing kept", x.look(13), 0);
        Due.is("lowest", x.press(0, 11), 11);
        Due.is("above", x.press(0, 11), 23);
        Due.is("over", x.press(0, 11), 23);
        Due.is("marks", x.look(1), 2);
        Due.is("came", x.of(0, 5), 3);
        Due.is("book", x.look(7), 3);
        Due.is("a mark", x.book(1, 2), 0);
        Due.is("one over one", x.book(2, 2), 1);
        Due.is("who", x.book(2, 3), 0);
        Due.is("where", x.book(2, 4), 23);
        Due.is("depth", x.cell(0, 11, 2), 5);
        x.lift(0, 11);
        Due.is("into the gap", x.press(0, 11), 11);
        x.hand(0, 1);
        Due.is("gloved", x.press(0, 0), -1);
        x.hand(0, 2);
        Due.is("lost", x.press(0, 0), -1);
        x.hand(0, 0);
        x.set(2, 0, 0);
        x.set(1, 0, -1);
        x.set(3, 0, 1);
        Due.is("height 0", x.press(0, 11), 11);
        Due.is("down", x.cell(0, 11, 1), -1);
        Due.is("depth of press 1", x.cell(0, 11, 2), 1);
        Due.is("no draw", x.look(8), 0);
    }

    private static void lift() {
        ThumbBallot x = two();
        Due.no("bare", x.lift(0, 0));
        Due.is("press", x.press(1, 0), 0);
        int[][] no = {{-1, 0}, {0, -1}, {12, 0}, {0, 12}, {1, 0}, {0, 1}};
        for (int[] n : no) {
            Due.no("no mark", x.lift(n[0], n[1]));
        }
        Due.yes("lift", x.lift(0, 0));
        Due.is("gone", x.cell(0, 0, 0), -1);
        Due.is("book", x.look(7), 2);
        Due.is("lifted", x.book(1, 2), 3);
        Due.is("whose", x.book(1, 3), 1);
        Due.is("where", x.book(1, 4), 0);
        Due.no("again", x.lift(0, 0));
        Due.is("kept", x.look(13), 2);
    }

    private static void hand() {
        ThumbBallot x = two();
        Due.no("so already", x.hand(0, 0));
        Due.no("3", x.hand(0, 3));
        Due.no("-1", x.hand(0, -1));
        Due.no("no voter", x.hand(2, 1));
        Due.no("no voter", x.hand(-1, 1));
        Due.is("kept", x.look(13), 0);
        Due.yes("gloved", x.hand(0, 1));
        Due.no("so already", x.hand(0, 1));
        Due.yes("lost", x.hand(0, 2));
        Due.is("hand", x.of(0, 4), 2);
        Due.is("the other's", x.of(1, 4), 0);
        Due.is("kept", x.look(13), 2);
        Due.is("no line", x.look(7), 0);
    }

    private static void cell() {
        ThumbBallot x = two();
        x.set(4, 0, 5);
        x.press(0, 4);
        x.press(1, 4);
        int[][] due = {{0, 1, 5, 250, 5}, {1, -1, 1, 450, 1}, {-1, 0, 0, -1, -1}};
        for (int row = 0; row < 3; row++) {
            for (int what = 0; what < 5; what++) {
                Due.is("cell " + row + " " + what, x.cell(row, 4, what), due[row][what]);
            }
        }
        Due.is("what", x.cell(0, 4, 5), -2);
        Due.is("what", x.cell(0, 4, -1), -2);
        Due.is("row", x.cell(12, 4, 0), -2);
        Due.is("row", x.cell(-1, 4, 0), -2);
        Due.is("column", x.cell(0, 12, 0), -2);
        Due.is("column", x.cell(0, -1, 0), -2);
        x.set(4, 0, 9);
        Due.reads(x, 0, "melts 2000;weighs 50*depth;", 2);
        Due.is("held", x.cell(0, 4, 3), 1000);
        Due.is("held", x.cell(0, 4, 4), 99);
        Due.is("not held", x.cell(1, 4, 4), 50);
        Due.reads(x, 0, "melts 0-1;weighs 0-1;", 2);
        Due.is("held", x.cell(0, 4, 3), 0);
        Due.is("held", x.cell(0, 4, 4), 0);
        Due.reads(x, 0, "weighs 10*row+beside when mind<0;weighs 70+came;", 2);
        Due.is("row, beside", x.cell(1, 4, 4), 11);
        Due.is("came", x.cell(0, 4, 4), 71);
        // the mark stays as it was when its voter's mind is another
        x.set(1, 0, -1);
        Due.is("still up", x.cell(0, 4, 4), 71);
        Due.reads(x, 0, "weighs height*mind+press;", 1);
        Due.is("of the voter, mind of the mark", x.cell(0, 4, 4), 20);
        Due.is("of the voter, mind of the mark", x.cell(1, 4, 4), 0);
    }

    private static void looksAndTurned() {
        ThumbBallot x = new ThumbBallot();
        Due.is("looks", x.wax(0), 0);
        Due.is("can't", x.wax(1), -1);
        x.voter(0, 1, 11, 6);
        x.voter(0, -1, 11, 8);
        x.voter(0, -1, 11, 0);
        x.press(2, 0);
        Due.is("looks", x.wax(0), -1);
        Due.is("can't", x.wax(1), -1);
        x.press(1, 1);
        x.press(2, 2);
        x.press(0, 3);
        Due.is("looks", x.wax(0), -3);
        Due.is("the heaviest", x.wax(1), 1);
        x.press(2, 4);
        x.press(2, 5);
        x.press(1, 6);
        Due.is("looks", x.wax(0), -10);
        Due.is("two heavy and one", x.wax(1), 3);
        x.press(0, 7);
        x.press(0, 8);
        x.press(0, 9);
        Due.is("looks", x.wax(0), 2);
        Due.is("it is", x.wax(1), 0);
        x.press(2, 10);
        x.press(2, 11);
        Due.is("looks", x.wax(0), 0);
        Due.is("above 0", x.wax(1), 1);
        Due.reads(x, 0, "weighs 0 when mind>0;", 1);
        Due.is("can't", x.wax(1), -1);
    }

    private static void lies() {
        ThumbBallot x = two();
        put(x, 0, 0, 0);
        put(x, 1, 1, 1);
        Due.is("across is apart", x.wax(2), 2);
        Due.is("greatest", x.wax(3), 1);
        put(x, 1, 0, 1);
        Due.is("together", x.wax(2), 1);
        Due.is("greatest", x.wax(3), 3);
        put(x, 0, 0, 11);
        put(x, 0, 1, 0);
        put(x, 0, 5, 5);
        Due.is("the edges do not meet", x.wax(2), 3);
        Due.is("greatest", x.wax(3), 4);
        Due.is("what", x.wax(10), -100000);
        Due.is("what", x.wax(-1), -100000);
    }

    private static void holes() {
        ThumbBallot x = two();
        Due.is("none", x.wax(4), 0);
        int[][] ring = {{5, 4}, {5, 6}, {4, 5}, {6, 5}};
        for (int[] c : ring) {
            Due.is("open yet", x.wax(4), 0);
            put(x, 0, c[0], c[1]);
        }
        Due.is("closed by four sides", x.wax(4), 1);
        Due.is("four blobs", x.wax(2), 4);
        put(x, 0, 5, 8);
        put(x, 0, 4, 7);
        put(x, 0, 6, 7);
        Due.is("two holes", x.wax(4), 2);
        put(x, 0, 4, 6);
        put(x, 0, 6, 6);
        x.lift(5, 6);
        Due.is("one greater", x.wax(4), 1);
        put(x, 0, 5, 5);
        Due.is("one smaller", x.wax(4), 1);
        ThumbBallot y = two();
        put(y, 0, 1, 0);
        put(y, 0, 0, 1);
        Due.is("a corner comes to the edge", y.wax(4), 0);
        int[][] nooks = {{0, 4, 0, 6, 1, 5}, {11, 4, 11, 6, 10, 5}, {4, 0, 6, 0, 5, 1}, {4, 11, 6, 11, 5, 10}};
        for (int[] n : nooks) {
            ThumbBallot z = two();
            for (int i = 0; i < 6; i += 2) {
                put(z, 1, n[i], n[i + 1]);
            }
            Due.is("a nook at the edge", z.wax(4), 0);
        }
        // just inside of the edges a hole is one
        int[][] inside = {{1, 5}, {10, 5}, {5, 1}, {5, 10}};
        for (int[] c : inside) {
            ThumbBallot z = two();
            put(z, 1, c[0] - 1, c[1]);
            put(z, 1, c[0] + 1, c[1]);
            put(z, 1, c[0], c[1] - 1);
            put(z, 1, c[0], c[1] + 1);
            Due.is("a hole beside the edge", z.wax(4), 1);
        }
    }

    private static void face() {
        ThumbBallot x = two();
        Due.is("bare", x.wax(5), 1);
        put(x, 0, 3, 2);
        Due.is("left alone", x.wax(5), 0);
        Due.is("in one", x.wax(6), 1);
        put(x, 1, 3, 9);
        Due.is("up and down", x.wax(6), 1);
        x.lift(3, 9);
        put(x, 0, 3, 9);
        Due.is("alike", x.wax(5), 1);
        put(x, 1, 0, 5);
        put(x, 1, 0, 6);
        Due.is("alike", x.wax(6), 0);
        put(x, 1, 1, 6);
        put(x, 1, 2, 11);
        Due.is("not", x.wax(5), 0);
        Due.is("in two", x.wax(6), 2);
        put(x, 1, 0, 0);
        put(x, 1, 11, 4);
        Due.is("in the lowest and the highest row", x.wax(6), 4);
    }

    private static void square(ThumbBallot x, int side, int row, int column) {
        Due.is("side", x.wax(7), side);
        Due.is("row", x.wax(8), row);
        Due.is("column", x.wax(9), column);
    }

    private static void bare() {
        ThumbBallot x = two();
        square(x, 12, 0, 0);
        put(x, 0, 0, 0);
        square(x, 11, 0, 1);
        put(x, 0, 0, 11);
        square(x, 11, 1, 0);
        put(x, 0, 11, 11);
        square(x, 11, 1, 0);
        put(x, 0, 11, 0);
        square(x, 10, 0, 1);
        put(x, 0, 5, 6);
        square(x, 6, 1, 0);
    }

    private static void full() {
        ThumbBallot x = two();
        for (int i = 0; i < 143; i++) {
            x.press(i % 2, i / 12);
        }
        square(x, 1, 11, 11);
        Due.is("a bare corner is no hole", x.wax(4), 0);
        x.press(0, 11);
        square(x, 0, -1, -1);
        Due.is("marks", x.look(1), 144);
        Due.is("one blob", x.wax(2), 1);
        Due.is("of all", x.wax(3), 144);
        Due.is("no holes", x.wax(4), 0);
        Due.is("looks", x.wax(0), 73 * 5 - 71);
        Due.reads(x, 0, "weighs beside;", 1);
        Due.is("corner", x.cell(0, 0, 4), 2);
        Due.is("corner", x.cell(11, 11, 4), 2);
        Due.is("edge", x.cell(5, 0, 4), 3);
        Due.is("edge", x.cell(5, 11, 4), 3);
        Due.is("edge", x.cell(0, 5, 4), 3);
        Due.is("edge", x.cell(11, 5, 4), 3);
        Due.is("inside", x.cell(5, 5, 4), 4);
    }
}
