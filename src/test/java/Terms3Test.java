/** The document's Terms, 3, AN HOUR: each boundary that a sentence names. */
public final class Terms3Test {
    public static void main(String[] args) {
        skyOfThisDay();
        mindAtHourZero();
        heatAtItsHour();
        puttyAtItsHour();
        puttyOnBareWax();
        skyLineByLine();
        skyAheadOfWays();
        waysOfThisHour();
        waysLineByLine();
        handBare();
        mindNotZero();
        comesAboveZero();
        belowIt();
        lowestBareCell();
        noneBare();
        upOrDown();
        depthOfPress();
        cameOneMore();
        waysAheadOfMelting();
        cellByCell();
        meltsAboveZero();
        meltsBelowIt();
        depthOneLess();
        goneAtZero();
        meltedSeesWhatIsLeft();
        hourOneMore();
        evening();
        sumAboveZero();
        weighsWhenRead();
        bareThen();
        pressByHand();
        liftByHand();
        handByHand();
        bookLines();
        bookIsFull();
        Due.finish();
    }

    /** Voters for it who reach the first row alone, come always, and leave what never melts. */
    private static ThumbBallot sure(int voters, String ways) {
        ThumbBallot x = new ThumbBallot();
        for (int i = 0; i < voters; i++) {
            x.voter(i, 1, 0, 0);
        }
        Due.text(x, 0, "comes 1000;melts 0;");
        Due.text(x, 1, ways);
        return x;
    }

    private static void bookIs(ThumbBallot x, int line, int day, int hour, int what, int who, int much) {
        int[] due = {day, hour, what, who, much};
        for (int i = 0; i < 5; i++) {
            Due.is("book " + line + " " + i, x.book(line, i), due[i]);
        }
    }

    private static void skyOfThisDay() {
        Due.says("Line by line of SKY for this DAY");
        ThumbBallot x = sure(1, "");
        Due.reads(x, 2, "on 1 heat 5 at 0;on 2 heat 6 at 0;on 1 mind 0 none;on 1 putty at 0 0 0;", 4);
        x.press(0, 0);
        x.hours(1);
        Due.is("HEAT of DAY 0", x.look(2), 0);
        Due.is("MIND of DAY 0", x.of(0, 1), 1);
        Due.is("MARKS of DAY 0", x.look(1), 1);
        x.hours(11);
        x.press(0, 0);
        x.hours(1);
        Due.is("HEAT of DAY 1", x.look(2), 5);
        Due.is("MIND of DAY 1", x.of(0, 1), 0);
        Due.is("MARKS of DAY 1", x.look(1), 0);
        x.set(1, 0, -1);
        x.hours(12);
        Due.is("HEAT of DAY 2", x.look(2), 6);
        Due.is("MIND of DAY 2", x.of(0, 1), -1);
        x.set(4, 0, 1);
        x.hours(12);
        Due.is("HEAT of DAY 3", x.look(2), 1);
    }

    private static void mindAtHourZero() {
        Due.says("mind (at HOUR 0): MIND is so");
        ThumbBallot x = sure(1, "");
        x.hours(1);
        Due.reads(x, 2, "on 0 mind 0 against;on 1 mind 0 none;", 2);
        x.hours(11);
        Due.is("HOUR 0 is over", x.of(0, 1), 1);
        x.hours(1);
        Due.is("at HOUR 0", x.of(0, 1), 0);
        x.set(1, 0, 1);
        x.hours(11);
        Due.is("not again", x.of(0, 1), 1);
    }

    private static void heatAtItsHour() {
        Due.says("heat (at its HOUR): HEAT is N");
        ThumbBallot x = sure(1, "");
        Due.reads(x, 2, "on 0 heat 9 at 0;on 0 heat 4 at 5;on 0 heat 0 at 11;", 3);
        int[] due = {9, 9, 9, 9, 9, 4, 4, 4, 4, 4, 4, 0, 0};
        for (int i = 0; i < due.length; i++) {
            x.hours(1);
            Due.is("HEAT behind HOUR " + i, x.look(2), due[i]);
        }
    }

    private static void puttyAtItsHour() {
        Due.says("putty (at its HOUR): the MARK on that CELL is gone");
        ThumbBallot x = sure(2, "");
        x.press(0, 11);
        x.press(1, 3);
        Due.reads(x, 2, "on 0 putty at 0 11 0;on 0 putty at 2 3 0;", 2);
        x.hours(1);
        Due.is("at HOUR 0", x.cell(0, 11, 0), -1);
        x.hours(1);
        Due.is("at HOUR 1 not yet", x.cell(0, 3, 0), 1);
        x.hours(1);
        Due.is("at HOUR 2", x.cell(0, 3, 0), -1);
        bookIs(x, 2, 0, 0, 3, 0, 11);
        bookIs(x, 3, 0, 2, 3, 1, 3);
        x.press(1, 3);
        x.hours(1);
        Due.is("not again", x.cell(0, 3, 0), 1);
    }

    private static void puttyOnBareWax() {
        Due.says("putty: the MARK on that CELL, if there is one");
        ThumbBallot x = sure(1, "");
        Due.reads(x, 2, "on 0 putty at 0 0 0;on 0 putty at 0 11 11;", 2);
        x.hours(1);
        Due.is("no line", x.look(7), 0);
        Due.is("HOUR", x.look(3), 1);
    }

    private static void skyLineByLine() {
        Due.says("Line by line of SKY");
        ThumbBallot x = sure(1, "");
        x.press(0, 0);
        Due.reads(x, 2, "on 0 heat 3 at 0;on 0 heat 8 at 0;on 0 mind 0 none;on 0 mind 0 against;"
                + "on 0 putty at 0 0 0;on 0 putty at 0 0 0;", 6);
        x.hours(1);
        Due.is("the later HEAT", x.look(2), 8);
        Due.is("the later MIND", x.of(0, 1), -1);
        Due.is("lifted once", x.look(7), 2);
    }

    private static void skyAheadOfWays() {
        Due.says("(a) .. (b)");
        ThumbBallot x = sure(2, "voter 0 at 0 to 4;voter 1 at 0 to 4;");
        x.set(1, 0, 0);
        x.press(1, 4);
        Due.reads(x, 2, "on 0 mind 0 against;on 0 mind 1 none;on 0 putty at 0 4 0;on 0 heat 5 at 0;", 4);
        Due.reads(x, 0, "comes 1000 when heat=5;comes 0;melts 0;", 3);
        Due.is("he who is against now", x.hours(1), 1);
        Due.is("down", x.cell(0, 4, 1), -1);
        bookIs(x, 1, 0, 0, 3, 1, 4);
        bookIs(x, 2, 0, 0, 0, 0, 4);
    }

    private static void waysOfThisHour() {
        Due.says("Line by line of WAYS for this HOUR");
        ThumbBallot x = sure(1, "voter 0 at 0 to 1;voter 0 at 5 to 2;voter 0 at 11 to 3;voter 0 at 5 to 4;");
        int[] due = {1, 0, 0, 0, 0, 2, 0, 0, 0, 0, 0, 1};
        for (int day = 0; day < 2; day++) {
            for (int hour = 0; hour < 12; hour++) {
                Due.is("HOUR " + hour, x.hours(1), due[hour]);
            }
        }
        Due.is("all of a day", x.hours(12), 4);
        Due.is("of five days", x.hours(60), 20);
        Due.is("CAME", x.of(0, 5), 32);
    }

    private static void waysLineByLine() {
        Due.says("Line by line of WAYS");
        ThumbBallot x = sure(3, "voter 2 at 0 to 0;voter 0 at 0 to 0;voter 1 at 0 to 0;voter 0 at 0 to 0;");
        x.set(2, 0, 1);
        Due.is("left", x.hours(1), 4);
        int[][] due = {{0, 2, 0}, {0, 0, 12}, {1, 1, 0}, {1, 0, 12}};
        for (int i = 0; i < 4; i++) {
            bookIs(x, i, 0, 0, due[i][0], due[i][1], due[i][2]);
        }
        // the draws go in the lines' order
        for (int state = 0; state < 60; state++) {
            ThumbBallot y = sure(2, "voter 1 at 0 to 1;voter 0 at 0 to 2;");
            Due.text(y, 0, "comes 500;melts 0;");
            y.state(state);
            int one = Due.drawn(state);
            int two = Due.drawn(one);
            y.hours(1);
            Due.is("the first line", y.of(1, 5), Due.ofThousand(one) < 500 ? 1 : 0);
            Due.is("the second line", y.of(0, 5), Due.ofThousand(two) < 500 ? 1 : 0);
            Due.is("STATE", y.look(8), two);
        }
    }

    private static void handBare() {
        Due.says("a VOTER with HAND bare");
        for (int hand = 0; hand <= 2; hand++) {
            ThumbBallot x = sure(1, "voter 0 at 0 to 0;");
            x.hand(0, hand);
            Due.is("HAND " + hand, x.hours(1), hand == 0 ? 1 : 0);
            Due.is("a DRAW with HAND " + hand, x.look(8), hand == 0 ? Due.drawn(0) : 0);
            Due.is("CAME", x.of(0, 5), hand == 0 ? 1 : 0);
        }
    }

    private static void mindNotZero() {
        Due.says("and MIND not 0");
        for (int mind = -1; mind <= 1; mind++) {
            ThumbBallot x = sure(1, "voter 0 at 0 to 0;");
            x.set(1, 0, mind);
            Due.is("MIND " + mind, x.hours(1), Math.abs(mind));
            Due.is("a DRAW with MIND " + mind, x.look(8), mind == 0 ? 0 : Due.drawn(0));
        }
    }

    private static void comesAboveZero() {
        Due.says("comes is asked, is it above 0, a DRAW of 1000");
        String[] comes = {"0", "0-5", "1", "1000"};
        boolean[] draw = {false, false, true, true};
        for (int i = 0; i < comes.length; i++) {
            ThumbBallot x = sure(1, "voter 0 at 0 to 0;");
            Due.text(x, 0, "comes " + comes[i] + ";melts 0;");
            x.state(Due.ahead(0));
            Due.is("comes " + comes[i], x.hours(1), draw[i] ? 1 : 0);
            Due.is("STATE", x.look(8), draw[i] ? 0 : Due.ahead(0));
        }
    }

    private static void belowIt() {
        Due.says("below it he leaves his thumb");
        int[] values = {0, 1, 499, 500, 998, 999};
        for (int value : values) {
            for (int comes = Math.max(1, value - 1); comes <= Math.min(1000, value + 2); comes++) {
                ThumbBallot x = sure(1, "voter 0 at 0 to 0;");
                Due.text(x, 0, "comes " + comes + ";melts 0;");
                x.state(Due.ahead(value << 8));
                Due.is("draw " + value + ", comes " + comes, x.hours(1), value < comes ? 1 : 0);
            }
        }
    }

    private static void lowestBareCell() {
        Due.says("on the lowest CELL without a MARK not above his HEIGHT");
        ThumbBallot x = sure(1, "voter 0 at 0 to 6;");
        x.set(2, 0, 3);
        x.press(0, 6);
        x.press(0, 6);
        x.press(0, 6);
        x.lift(1, 6);
        x.hours(1);
        Due.is("the gap", x.book(4, 4), 18);
        x.hours(11);
        for (int row = 0; row <= 3; row++) {
            Due.is("row by row", x.press(0, 6), 12 * row + 6);
        }
        x.lift(3, 6);
        Due.is("at his HEIGHT, bare", x.press(0, 6), 42);
        Due.is("a mark", x.book(x.look(7) - 1, 2), 0);
    }

    private static void noneBare() {
        Due.says("is there none, on the one at his HEIGHT, over what is there (that is gone)");
        ThumbBallot x = sure(2, "voter 1 at 0 to 6;");
        x.set(2, 0, 5);
        x.set(2, 1, 2);
        x.set(1, 1, -1);
        x.set(3, 1, 9);
        for (int i = 0; i < 4; i++) {
            x.press(0, 6);
        }
        Due.is("one", x.hours(1), 1);
        bookIs(x, 4, 0, 0, 1, 1, 30);
        Due.is("whose", x.cell(2, 6, 0), 1);
        Due.is("way", x.cell(2, 6, 1), -1);
        Due.is("DEPTH", x.cell(2, 6, 2), 5);
        Due.is("MARKS", x.look(1), 4);
        Due.is("lines: the gone one has none of its own", x.look(7), 5);
        x.set(2, 1, 0);
        Due.is("HEIGHT 0", x.press(1, 6), 6);
        x.set(2, 1, 11);
        Due.is("HEIGHT 11, bare above", x.press(1, 6), 54);
    }

    private static void upOrDown() {
        Due.says("up, if he is for it, else down");
        ThumbBallot x = sure(1, "voter 0 at 0 to 0;voter 0 at 1 to 1;");
        x.hours(1);
        x.set(1, 0, -1);
        x.hours(1);
        Due.is("for", x.cell(0, 0, 1), 1);
        Due.is("against", x.cell(0, 1, 1), -1);
    }

    private static void depthOfPress() {
        Due.says("DEPTH 1 and PRESS by 2, at most 9");
        for (int press = 0; press <= 9; press++) {
            ThumbBallot x = sure(1, "voter 0 at 0 to 0;");
            x.set(3, 0, press);
            x.hours(1);
            Due.is("PRESS " + press, x.cell(0, 0, 2), 1 + press / 2);
        }
    }

    private static void cameOneMore() {
        Due.says("CAME one more");
        ThumbBallot x = sure(2, "voter 0 at 0 to 0;voter 0 at 0 to 0;voter 1 at 1 to 0;");
        x.hours(1);
        Due.is("twice", x.of(0, 5), 2);
        Due.is("not yet", x.of(1, 5), 0);
        Due.text(x, 0, "comes 0;melts 0;");
        x.hours(1);
        Due.is("he did not come", x.of(1, 5), 0);
        Due.text(x, 0, "comes 1000 when came=2;comes 0;melts 0;");
        x.hours(11);
        Due.is("came is 2 for the first line alone", x.of(0, 5), 3);
    }

    private static void waysAheadOfMelting() {
        Due.says("(b) .. (c)");
        ThumbBallot x = sure(1, "voter 0 at 0 to 0;");
        Due.text(x, 0, "comes 1000;melts 1000;");
        Due.is("left", x.hours(1), 1);
        Due.is("and gone in the same hour", x.look(1), 0);
        bookIs(x, 0, 0, 0, 0, 0, 0);
        bookIs(x, 1, 0, 0, 2, 0, 0);
    }

    private static void cellByCell() {
        Due.says("(c) CELL by CELL (row by row from the lowest, column by column) with a MARK");
        int[][] cells = {{0, 3}, {0, 9}, {1, 0}, {1, 3}, {2, 1}};
        for (int state = 0; state < 40; state++) {
            ThumbBallot x = sure(1, "");
            for (int i = cells.length - 1; i >= 0; i--) {
                WaxTest.put(x, 0, cells[i][0], cells[i][1]);
            }
            Due.text(x, 0, "melts 500;");
            x.state(state);
            x.hours(1);
            int next = state;
            for (int[] c : cells) {
                next = Due.drawn(next);
                Due.is("gone", x.cell(c[0], c[1], 0), Due.ofThousand(next) < 500 ? -1 : 0);
            }
            Due.is("one DRAW a MARK", x.look(8), next);
        }
    }

    private static void meltsAboveZero() {
        Due.says("melts is asked, is it above 0, a DRAW of 1000");
        String[] melts = {"0", "0-5", "1", "1000"};
        boolean[] draw = {false, false, true, true};
        for (int i = 0; i < melts.length; i++) {
            ThumbBallot x = sure(1, "");
            x.press(0, 0);
            Due.text(x, 0, "melts " + melts[i] + ";");
            x.state(Due.ahead(0));
            x.hours(1);
            Due.is("MARKS, melts " + melts[i], x.look(1), draw[i] ? 0 : 1);
            Due.is("STATE", x.look(8), draw[i] ? 0 : Due.ahead(0));
        }
        ThumbBallot y = sure(1, "");
        Due.text(y, 0, "melts 1000;");
        y.hours(1);
        Due.is("no MARK, no DRAW", y.look(8), 0);
    }

    private static void meltsBelowIt() {
        Due.says("below it DEPTH is one less");
        int[] values = {0, 1, 499, 500, 998, 999};
        for (int value : values) {
            for (int melts = Math.max(1, value - 1); melts <= Math.min(1000, value + 2); melts++) {
                ThumbBallot x = sure(1, "");
                x.set(3, 0, 2);
                x.press(0, 0);
                Due.text(x, 0, "melts " + melts + ";");
                x.state(Due.ahead(value << 8));
                x.hours(1);
                Due.is("draw " + value + ", melts " + melts, x.cell(0, 0, 2), value < melts ? 1 : 2);
            }
        }
    }

    private static void depthOneLess() {
        Due.says("DEPTH is one less");
        for (int mind = -1; mind <= 1; mind += 2) {
            ThumbBallot x = sure(2, "");
            x.set(1, 1, mind);
            x.set(3, 1, 9);
            x.press(1, 0);
            Due.text(x, 0, "melts 1000;");
            for (int depth = 5; depth > 0; depth--) {
                Due.is("DEPTH", x.cell(0, 0, 2), depth);
                Due.is("whose", x.cell(0, 0, 0), 1);
                Due.is("way", x.cell(0, 0, 1), mind);
                Due.is("no line of it", x.look(7), 1);
                x.hours(1);
            }
            Due.is("gone", x.cell(0, 0, 2), 0);
        }
    }

    private static void goneAtZero() {
        Due.says("is it 0 then, the MARK is gone");
        ThumbBallot x = sure(2, "");
        x.press(1, 7);
        Due.text(x, 0, "melts 1000;");
        x.hours(1);
        Due.is("whose", x.cell(0, 7, 0), -1);
        Due.is("way", x.cell(0, 7, 1), 0);
        Due.is("DEPTH", x.cell(0, 7, 2), 0);
        Due.is("MARKS", x.look(1), 0);
        bookIs(x, 1, 0, 0, 2, 1, 7);
    }

    private static void meltedSeesWhatIsLeft() {
        Due.says("CELL by CELL: melts is asked");
        ThumbBallot x = sure(1, "");
        x.press(0, 0);
        x.press(0, 1);
        x.press(0, 2);
        Due.text(x, 0, "melts 1000 when beside=1;melts 0;");
        x.hours(1);
        Due.is("the first has one beside it", x.cell(0, 0, 0), -1);
        Due.is("then the second has one", x.cell(0, 1, 0), -1);
        Due.is("then the third has none", x.cell(0, 2, 0), 0);
    }

    private static void hourOneMore() {
        Due.says("(d) HOUR is one more, if it is not 11");
        ThumbBallot x = sure(1, "");
        x.press(0, 0);
        for (int hour = 0; hour < 11; hour++) {
            Due.is("HOUR", x.look(3), hour);
            x.hours(1);
        }
        Due.is("HOUR", x.look(3), 11);
        Due.is("DAY", x.look(4), 0);
        Due.is("not READ yet", x.look(7), 1);
        Due.is("MARKS", x.look(1), 1);
    }

    private static void evening() {
        Due.says("Is it 11, it is evening: the door is READ; HOUR 0, DAY one more");
        ThumbBallot x = sure(1, "voter 0 at 11 to 5;");
        x.hours(11);
        Due.is("he comes in the last HOUR, too", x.hours(1), 1);
        Due.is("HOUR", x.look(3), 0);
        Due.is("DAY", x.look(4), 1);
        Due.is("PASSED", x.look(5), 1);
        bookIs(x, 0, 0, 11, 0, 0, 5);
        bookIs(x, 1, 0, 11, 4, -1, 1);
        Due.text(x, 0, "comes 1000;melts 1000;");
        x.hours(12);
        Due.is("what melts in the last HOUR is not READ", x.look(6), 1);
        bookIs(x, 3, 1, 11, 2, 0, 5);
        bookIs(x, 4, 1, 11, 4, -1, 0);
    }

    private static void sumAboveZero() {
        Due.says("weighs of all MARKS up together less of all down: above 0: PASSED, else FAILED, one more");
        int[][] upsDowns = {{0, 0}, {1, 0}, {0, 1}, {1, 1}, {2, 1}, {1, 2}, {12, 0}, {0, 12}, {6, 6}};
        for (int[] n : upsDowns) {
            ThumbBallot x = sure(2, "");
            x.set(1, 1, -1);
            for (int i = 0; i < n[0] + n[1]; i++) {
                x.press(i < n[0] ? 0 : 1, i);
            }
            x.hours(12);
            Due.is("PASSED", x.look(5), n[0] > n[1] ? 1 : 0);
            Due.is("FAILED", x.look(6), n[0] > n[1] ? 0 : 1);
            bookIs(x, n[0] + n[1], 0, 11, 4, -1, n[0] - n[1]);
        }
        // heavy ones outweigh many; 12 times 99 down is the least sum in one row
        ThumbBallot y = sure(2, "");
        y.set(1, 1, -1);
        for (int i = 0; i < 12; i++) {
            y.press(i == 0 ? 0 : 1, i);
        }
        Due.text(y, 0, "melts 0;weighs 12 when mind>0;weighs 1;");
        y.hours(12);
        Due.is("PASSED", y.look(5), 1);
        for (int i = 0; i < 12; i++) {
            y.press(1, i);
        }
        Due.text(y, 0, "melts 0;weighs 999;");
        y.hours(12);
        Due.is("the sum", y.book(y.look(7) - 1, 4), -1188);
    }

    private static void weighsWhenRead() {
        Due.says("the door is READ (HOUR 11 yet)");
        ThumbBallot x = sure(1, "");
        x.press(0, 0);
        Due.text(x, 0, "melts 0;weighs 7 when hour=11 and day=0;weighs 0;");
        Due.is("LOOKS at HOUR 0", x.wax(0), 0);
        x.hours(11);
        Due.is("LOOKS at HOUR 11", x.wax(0), 7);
        x.hours(1);
        bookIs(x, 1, 0, 11, 4, -1, 7);
        Due.is("PASSED", x.look(5), 1);
    }

    private static void bareThen() {
        Due.says("THE WAX is bare");
        ThumbBallot x = sure(1, "");
        x.set(2, 0, 11);
        for (int i = 0; i < 144; i++) {
            x.press(0, i % 12);
        }
        x.hours(11);
        Due.is("MARKS", x.look(1), 144);
        x.hours(1);
        Due.is("MARKS", x.look(1), 0);
        Due.is("CAME stays", x.of(0, 5), 144);
        Due.is("the sum of all", x.book(144, 4), 144);
    }

    private static void pressByHand() {
        Due.says("By hand: to PRESS (a VOTER, HAND bare, MIND not 0, in a column, as in (b), without a DRAW)");
        ThumbBallot x = sure(3, "");
        Due.text(x, 0, "comes 0;");
        x.hand(1, 1);
        x.set(1, 2, 0);
        Due.is("comes is not asked", x.press(0, 4), 4);
        Due.is("no DRAW", x.look(8), 0);
        Due.is("gloved", x.press(1, 4), -1);
        Due.is("no MIND", x.press(2, 4), -1);
        Due.is("HOUR stays", x.look(3), 0);
        Due.is("lines", x.look(7), 1);
    }

    private static void liftByHand() {
        Due.says("to LIFT a MARK");
        ThumbBallot x = sure(2, "");
        x.set(3, 1, 9);
        x.press(1, 4);
        Due.yes("however deep", x.lift(0, 4));
        Due.is("MARKS", x.look(1), 0);
        bookIs(x, 1, 0, 0, 3, 1, 4);
        Due.is("CAME stays", x.of(1, 5), 1);
    }

    private static void handByHand() {
        Due.says("to set a HAND");
        ThumbBallot x = sure(1, "");
        x.press(0, 4);
        Due.yes("lost", x.hand(0, 2));
        Due.is("his MARK stays", x.cell(0, 4, 0), 0);
        Due.yes("found", x.hand(0, 0));
        Due.is("he may again", x.press(0, 5), 5);
        Due.is("no line of hands", x.look(7), 2);
    }

    private static void bookLines() {
        Due.says("THE BOOK: DAY, HOUR, what, who, how much");
        ThumbBallot x = sure(2, "");
        x.set(2, 0, 11);
        x.hours(26);
        x.press(0, 11);
        x.press(1, 11);
        x.press(0, 11);
        x.lift(1, 11);
        bookIs(x, 0, 0, 11, 4, -1, 0);
        bookIs(x, 1, 1, 11, 4, -1, 0);
        bookIs(x, 2, 2, 2, 0, 0, 11);
        bookIs(x, 3, 2, 2, 1, 1, 11);
        bookIs(x, 4, 2, 2, 0, 0, 23);
        bookIs(x, 5, 2, 2, 3, 0, 23);
        for (int i = 0; i < 12; i++) {
            x.press(0, 0);
        }
        Due.is("the highest row", x.book(17, 4), 132);
    }

    private static void bookIsFull() {
        Due.says("(150 lines; no more then)");
        ThumbBallot x = sure(2, "voter 1 at 3 to 3;");
        x.set(2, 0, 11);
        for (int i = 0; i < 149; i++) {
            x.press(0, i % 12);
            Due.is("lines", x.look(7), i + 1);
        }
        Due.is("none yet", x.book(149, 2), -10000);
        Due.yes("the 150th", x.lift(11, 1));
        Due.is("lines", x.look(7), 150);
        bookIs(x, 149, 0, 0, 3, 0, 133);
        x.press(0, 1);
        x.press(0, 2);
        x.lift(0, 0);
        Due.text(x, 0, "comes 1000;melts 1000 when row=5;melts 0;");
        x.hours(12);
        Due.is("lines", x.look(7), 150);
        bookIs(x, 149, 0, 0, 3, 0, 133);
        Due.is("none", x.book(150, 0), -10000);
        Due.is("all else goes on", x.look(5), 1);
        Due.is("CAME", x.of(0, 5), 151);
        Due.is("CAME", x.of(1, 5), 1);
    }
}
