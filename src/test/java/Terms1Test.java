/** The document's Terms, what stands ahead and 1, VOTERS and THE WAX: each boundary that a sentence names. */
public final class Terms1Test {
    public static void main(String[] args) {
        quotients();
        stateAtFirst();
        stateWraps();
        drawIsWithoutSign();
        drawIsTheHighestBits();
        drawIsModuloThousand();
        numbersOfVoters();
        whorl();
        mind();
        height();
        press();
        handAndCameAtFirst();
        rowsAndColumns();
        markUpOrDown();
        heat();
        hourAndDay();
        crypt();
        Due.finish();
    }

    /** A voter who comes at hour 0 if a draw is below the chance, and wax that does not melt. */
    private static ThumbBallot onDraw(int chance) {
        ThumbBallot x = new ThumbBallot();
        x.voter(0, 1, 0, 0);
        Due.reads(x, 0, "comes " + chance + ";melts 0;", 2);
        Due.reads(x, 1, "voter 0 at 0 to 0;", 1);
        return x;
    }

    /** The draw that ends in this state answers the value: at it nobody comes, with one more he does. */
    private static void draws(int behind, int value) {
        for (int chance = Math.max(value, 1); chance <= Math.min(value + 1, 1000); chance++) {
            ThumbBallot x = onDraw(chance);
            x.state(Due.ahead(behind));
            Due.is("comes " + chance, x.hours(1), chance > value ? 1 : 0);
            Due.is("STATE", x.look(8), behind);
        }
    }

    private static void quotients() {
        Due.says("Quotients go downwards");
        for (int press = 0; press <= 9; press++) {
            ThumbBallot x = new ThumbBallot();
            x.voter(0, 1, 0, press);
            x.press(0, 0);
            Due.is("DEPTH of PRESS " + press, x.cell(0, 0, 2), new int[] {1, 1, 2, 2, 3, 3, 4, 4, 5, 5}[press]);
        }
        ThumbBallot y = new ThumbBallot();
        y.party(4);
        y.party(9);
        Due.is("9 by 2 is 4: the first", y.seats(2, 0, 0), 1);
    }

    private static void stateAtFirst() {
        Due.says("STATE of draws (an int, 0 at first)");
        ThumbBallot x = new ThumbBallot();
        Due.is("look(8)", x.look(8), 0);
        Due.is("state(least)", x.state(Integer.MIN_VALUE), 0);
        Due.is("state(most)", x.state(Integer.MAX_VALUE), Integer.MIN_VALUE);
        Due.is("look(8)", x.look(8), Integer.MAX_VALUE);
        ThumbBallot y = onDraw(1000);
        y.hours(1);
        Due.is("the first draw of 0", y.look(8), 1013904223);
    }

    private static void stateWraps() {
        Due.says("it becomes 1664525 times itself + 1013904223 (ints, which wrap)");
        int[] states = {1, 2, -1, 1000, Integer.MAX_VALUE, Integer.MIN_VALUE, 1 << 20, -77777};
        for (int state : states) {
            ThumbBallot x = onDraw(1000);
            x.state(state);
            x.hours(1);
            Due.is("STATE behind " + state, x.look(8), (int) (1664525L * state + 1013904223L));
        }
    }

    private static void drawIsWithoutSign() {
        Due.says("its highest 24 bits (without sign)");
        draws(0x80000000, 8388608 % 1000);
        draws(0xffffff00, 16777215 % 1000);
        draws(0x7fffff00, 8388607 % 1000);
    }

    private static void drawIsTheHighestBits() {
        Due.says("its highest 24 bits");
        draws(0x000005ff, 5);
        draws(0x00000600, 6);
        draws(0x000000ff, 0);
    }

    private static void drawIsModuloThousand() {
        Due.says("a DRAW of m: .. modulo m");
        draws(999 << 8, 999);
        draws(1000 << 8, 0);
        draws(1001 << 8, 1);
        draws(0, 0);
    }

    private static void numbersOfVoters() {
        Due.says("VOTERS 0 .. 19 as they come");
        ThumbBallot x = new ThumbBallot();
        Due.is("none yet", x.of(0, 0), -2);
        for (int i = 0; i < 20; i++) {
            Due.is("voter", x.voter(10 + i, 0, 0, 0), i);
        }
        Due.is("the last", x.of(19, 0), 29);
        Due.is("none behind", x.of(20, 0), -2);
        Due.is("none ahead", x.of(-1, 0), -2);
    }

    private static void trait(int what, int least, int most) {
        ThumbBallot x = new ThumbBallot();
        for (int v = least - 1; v <= most + 1; v++) {
            boolean can = v >= least && v <= most;
            int number = x.voter(what == 0 ? v : 0, what == 1 ? v : 0, what == 2 ? v : 0, what == 3 ? v : 0);
            Due.is("voter with " + v, number >= 0, can);
            if (can) {
                Due.is("is", x.of(number, what), v);
                x = new ThumbBallot();
            }
        }
        x.voter(0, 0, 0, 0);
        for (int v : new int[] {least, most, least - 1, most + 1, Integer.MIN_VALUE, Integer.MAX_VALUE}) {
            boolean can = v >= least && v <= most;
            int was = x.of(0, what);
            Due.is("set " + v, x.set(what, 0, v), can);
            Due.is("is", x.of(0, what), can ? v : was);
        }
    }

    private static void whorl() {
        Due.says("WHORL 0 .. 255 (8 bits)");
        trait(0, 0, 255);
    }

    private static void mind() {
        Due.says("MIND -1, 0, 1 (against, none, for)");
        trait(1, -1, 1);
    }

    private static void height() {
        Due.says("HEIGHT 0 .. 11 (how high he can reach)");
        trait(2, 0, 11);
        for (int height = 0; height <= 11; height++) {
            ThumbBallot x = new ThumbBallot();
            x.voter(0, 1, height, 0);
            for (int row = 0; row <= height; row++) {
                Due.is("the next row", x.press(0, 3), 12 * row + 3);
            }
            Due.is("no higher", x.press(0, 3), 12 * height + 3);
            Due.is("MARKS", x.look(1), height + 1);
        }
    }

    private static void press() {
        Due.says("PRESS 0 .. 9");
        trait(3, 0, 9);
    }

    private static void handAndCameAtFirst() {
        Due.says("HAND 0 bare, 1 gloved, 2 lost (0 at first), CAME (how often, an int, 0 at first)");
        ThumbBallot x = new ThumbBallot();
        x.voter(255, 1, 11, 9);
        Due.is("HAND", x.of(0, 4), 0);
        Due.is("CAME", x.of(0, 5), 0);
        x.press(0, 0);
        x.press(0, 0);
        x.hand(0, 2);
        x.voter(255, 1, 11, 9);
        Due.is("HAND of the next", x.of(1, 4), 0);
        Due.is("CAME of the next", x.of(1, 5), 0);
        Due.is("HAND", x.of(0, 4), 2);
        Due.is("CAME", x.of(0, 5), 2);
    }

    private static void rowsAndColumns() {
        Due.says("THE WAX: rows 0 (lowest) .. 11, columns 0 .. 11; on a CELL a MARK or none");
        ThumbBallot x = new ThumbBallot();
        x.voter(0, 1, 11, 0);
        int[] sides = {-1, 0, 11, 12, Integer.MIN_VALUE, Integer.MAX_VALUE};
        for (int row : sides) {
            for (int column : sides) {
                boolean there = row >= 0 && row <= 11 && column >= 0 && column <= 11;
                Due.is("cell " + row + " " + column, x.cell(row, column, 0), there ? -1 : -2);
                Due.no("lift " + row + " " + column, x.lift(row, column));
            }
            boolean fine = row == 0 || row == 11;
            Due.is("press in column " + row, x.press(0, row), fine ? row : -1);
        }
        Due.is("the first", x.cell(0, 0, 0), 0);
        Due.is("the last", x.cell(0, 11, 0), 0);
        Due.is("the row above is bare", x.cell(1, 0, 0), -1);
    }

    private static void markUpOrDown() {
        Due.says("a MARK: of a VOTER, up (1) or down (-1), DEPTH 1 .. 9");
        ThumbBallot x = new ThumbBallot();
        for (int i = 0; i < 20; i++) {
            x.voter(0, i % 2 == 0 ? 1 : -1, 11, i / 2);
        }
        for (int i = 0; i < 20; i++) {
            x.press(i, i % 12);
            int row = i / 12;
            Due.is("whose", x.cell(row, i % 12, 0), i);
            Due.is("way", x.cell(row, i % 12, 1), i % 2 == 0 ? 1 : -1);
            Due.is("DEPTH", x.cell(row, i % 12, 2), 1 + i / 2 / 2);
        }
    }

    private static void heat() {
        Due.says("HEAT 0 .. 9 (0 at first)");
        ThumbBallot x = new ThumbBallot();
        Due.is("at first", x.look(2), 0);
        int[] told = {9, 10, -1, 0, Integer.MAX_VALUE, Integer.MIN_VALUE, 5};
        int[] is = {9, 9, 9, 0, 0, 0, 5};
        for (int i = 0; i < told.length; i++) {
            Due.is("set " + told[i], x.set(4, 0, told[i]), told[i] >= 0 && told[i] <= 9);
            Due.is("HEAT", x.look(2), is[i]);
        }
    }

    private static void hourAndDay() {
        Due.says("HOUR 0 .. 11 (0 at first), DAY 0 .. 9999 (0 at first)");
        ThumbBallot x = new ThumbBallot();
        for (int i = 0; i < 30; i++) {
            Due.is("HOUR", x.look(3), i % 12);
            Due.is("DAY", x.look(4), i / 12);
            x.hours(1);
        }
        for (int i = 0; i < 400; i++) {
            x.hours(60);
        }
        Due.is("DAY", x.look(4), 2002);
        Due.is("HOUR", x.look(3), 6);
    }

    private static void crypt() {
        Due.says("PASSED, FAILED (how many, ints, 0 at first)");
        ThumbBallot x = new ThumbBallot();
        x.voter(0, 1, 0, 0);
        Due.is("PASSED", x.look(5), 0);
        Due.is("FAILED", x.look(6), 0);
        x.hours(12);
        x.hours(12);
        x.press(0, 0);
        x.hours(12);
        Due.is("PASSED", x.look(5), 1);
        Due.is("FAILED", x.look(6), 2);
    }
}
