/** The document's Terms, 4, IN THOUGHT, with UNDO and THE IMAGE: each boundary that a sentence names. */
public final class Terms4Test {
    public static void main(String[] args) {
        nothingStays();
        fiveHundredAtLeast();
        goesSixty();
        goesTells();
        looks();
        turned();
        blobs();
        holes();
        face();
        bareSquare();
        whose();
        nearest();
        could();
        seats();
        seatsTies();
        seatsAllZero();
        parishes();
        parishesMoreThanHalf();
        middle();
        half();
        candles();
        stack();
        oneBehindAnother();
        lantern();
        together();
        order();
        gameThatCanBe();
        gameThree();
        gameOver();
        gameBestPlayed();
        undoGoesBack();
        sixAreKept();
        undoForgets();
        undoKeeps();
        imageAll();
        imageMoreThanOnce();
        imageBook();
        imageThought();
        imageFull();
        Due.finish();
    }

    private static ThumbBallot two() {
        ThumbBallot x = new ThumbBallot();
        x.voter(1, 1, 11, 4);
        x.voter(2, -1, 11, 2);
        return x;
    }

    private static void nothingStays() {
        Due.says("IN THOUGHT (nothing of it stays; no DRAWS");
        ThumbBallot x = two();
        Due.text(x, 0, "comes 1000;melts 500;");
        Due.text(x, 1, "voter 0 at 0 to 0;voter 1 at 1 to 1;voter 0 at 3 to 3;");
        Due.text(x, 2, "on 0 heat 9 at 0;on 0 mind 1 for;on 0 putty at 1 5 0;");
        x.state(123456);
        x.press(0, 5);
        x.press(1, 6);
        x.hand(1, 1);
        int[] was = Due.seen(x);
        for (int what = 0; what <= 3; what++) {
            x.goes(60, what);
            x.goes(1, what);
        }
        Due.same("goes", Due.seen(x), was);
    }

    private static void fiveHundredAtLeast() {
        Due.says("one comes, it melts, if that is 500 at least");
        for (int chance = 499; chance <= 501; chance++) {
            ThumbBallot x = two();
            Due.text(x, 1, "voter 0 at 0 to 0;");
            Due.text(x, 0, "comes " + chance + ";melts 0;");
            Due.is("comes " + chance, x.goes(1, 3), chance < 500 ? 0 : 1);
            Due.text(x, 0, "melts " + chance + ";");
            x.press(1, 5);
            Due.is("DEPTH 2, melts " + chance, x.goes(1, 2), chance < 500 ? -2 + 3 : -1 + 2);
            Due.is("MARKS, melts " + chance, x.goes(3, 1), chance < 500 ? 2 : 0);
        }
    }

    private static void goesSixty() {
        Due.says("GOES for n (1 .. 60) HOURS");
        ThumbBallot x = two();
        Due.text(x, 0, "comes 1000;melts 0;");
        Due.text(x, 1, "voter 0 at 0 to 0;voter 0 at 11 to 0;");
        int[] no = {0, -1, 61, Integer.MIN_VALUE, Integer.MAX_VALUE};
        for (int n : no) {
            for (int what = 0; what <= 3; what++) {
                Due.is("goes " + n, x.goes(n, what), -100000);
            }
        }
        Due.is("1", x.goes(1, 3), 1);
        Due.is("11", x.goes(11, 3), 1);
        Due.is("12", x.goes(12, 3), 2);
        Due.is("13", x.goes(13, 3), 3);
        Due.is("60", x.goes(60, 3), 10);
        Due.is("60", x.goes(60, 0), 5);
    }

    private static void goesTells() {
        Due.says("PASSED, MARKS on THE WAX, the sum of weighs as it is READ, CAME of all then");
        ThumbBallot x = two();
        Due.text(x, 0, "comes 1000;melts 0;weighs hour+1;");
        Due.text(x, 1, "voter 0 at 2 to 0;voter 1 at 3 to 1;voter 0 at 5 to 2;");
        int[] marks = {0, 0, 1, 2, 2, 3, 3, 3, 3, 3, 3, 0};
        int[] ups = {0, 0, 1, 0, 0, 1, 1, 1, 1, 1, 1, 0};
        int[] came = {0, 0, 1, 2, 2, 3, 3, 3, 3, 3, 3, 3};
        for (int n = 1; n <= 12; n++) {
            Due.is("PASSED in " + n, x.goes(n, 0), n == 12 ? 1 : 0);
            Due.is("MARKS in " + n, x.goes(n, 1), marks[n - 1]);
            Due.is("sum in " + n, x.goes(n, 2), ups[n - 1] * (n + 1));
            Due.is("CAME in " + n, x.goes(n, 3), came[n - 1]);
        }
        x.hours(12);
        Due.is("PASSED before counts", x.goes(1, 0), 1);
        Due.is("CAME before counts", x.goes(1, 3), 3);
        Due.is("both", x.goes(12, 0), 2);
    }

    private static void looks() {
        Due.says("LOOKS: the sum as it is now");
        ThumbBallot x = two();
        Due.is("bare", x.wax(0), 0);
        x.press(1, 0);
        Due.is("down", x.wax(0), -2);
        x.press(0, 0);
        Due.is("and up", x.wax(0), 1);
        Due.text(x, 0, "weighs 50*hour;");
        Due.is("by the law, now", x.wax(0), 0);
        x.hours(1);
        x.lift(0, 0);
        Due.is("by the law, then", x.wax(0), 50);
    }

    private static void turned() {
        Due.says("TURNED: the fewest MARKS to be lifted so that the sum is above 0 (NONE: it can't; 0: it is)");
        ThumbBallot x = two();
        Due.is("bare: it can't", x.wax(1), -1);
        x.press(1, 0);
        Due.is("none up: it can't", x.wax(1), -1);
        x.press(0, 1);
        Due.is("above 0: it is", x.wax(1), 0);
        x.press(1, 2);
        Due.is("3 and twice 2: one", x.wax(1), 1);
        x.set(3, 1, 4);
        x.press(1, 3);
        Due.is("3, twice 2 and 3: two, the 3 and a 2", x.wax(1), 2);
        x.lift(0, 0);
        x.lift(0, 2);
        Due.is("3 and 3 is 0, not above: one", x.wax(1), 1);
        ThumbBallot z = two();
        z.set(3, 1, 0);
        z.press(0, 0);
        for (int i = 1; i <= 4; i++) {
            z.press(1, i);
        }
        Due.is("3 and four times 1: those down alone are lifted, two", z.wax(1), 2);
        Due.text(z, 0, "weighs 50 when mind>0;weighs 99 when beside=1;weighs 1;");
        Due.is("50, 99 and three times 1: the 99", z.wax(1), 1);
        Due.says("(each weighs as it does now)");
        ThumbBallot y = two();
        y.press(0, 0);
        y.press(1, 1);
        y.press(1, 2);
        y.press(1, 3);
        // without its neighbours each would weigh less: that is not asked
        Due.text(y, 0, "weighs 5*beside when mind<0;weighs 9;");
        Due.is("sum", y.wax(0), 9 - 10 - 10 - 5);
        Due.is("both of 10", y.wax(1), 2);
        Due.text(y, 0, "weighs 0 when mind>0;");
        Due.is("up weighs nothing: it can't", y.wax(1), -1);
        Due.text(y, 0, "weighs 0 when mind<0;weighs 1;");
        Due.is("down weighs nothing: it is", y.wax(1), 0);
    }

    private static void blobs() {
        Due.says("MARKS beside one another (4 sides) hang together: BLOBS: how many; the greatest");
        ThumbBallot x = two();
        Due.is("none", x.wax(2), 0);
        Due.is("none", x.wax(3), 0);
        WaxTest.put(x, 0, 0, 0);
        Due.is("one", x.wax(2), 1);
        Due.is("of one", x.wax(3), 1);
        WaxTest.put(x, 1, 1, 1);
        Due.is("across is not beside", x.wax(2), 2);
        WaxTest.put(x, 1, 0, 11);
        Due.is("the row's ends are not beside", x.wax(2), 3);
        WaxTest.put(x, 1, 11, 0);
        Due.is("the column's ends are not beside", x.wax(2), 4);
        WaxTest.put(x, 0, 1, 0);
        Due.is("up and down hang together", x.wax(2), 3);
        Due.is("of three", x.wax(3), 3);
        WaxTest.put(x, 0, 0, 1);
        Due.is("of four", x.wax(3), 4);
        // an arch and a hook: to the right and down again, to the left
        int[][] arch = {{0, 4}, {1, 4}, {2, 4}, {2, 5}, {2, 6}, {1, 6}, {0, 6}};
        int[][] hook = {{6, 8}, {7, 8}, {7, 7}, {7, 6}, {7, 5}};
        ThumbBallot y = two();
        for (int[] c : arch) {
            WaxTest.put(y, 1, c[0], c[1]);
        }
        Due.is("one", y.wax(2), 1);
        Due.is("of seven", y.wax(3), 7);
        ThumbBallot z = two();
        for (int[] c : hook) {
            WaxTest.put(z, 0, c[0], c[1]);
        }
        Due.is("one", z.wax(2), 1);
        Due.is("of five", z.wax(3), 5);
    }

    private static void holes() {
        Due.says("HOLES: bare CELLS that hang together (4 sides) and come to no edge: how many such");
        ThumbBallot x = two();
        Due.is("all bare", x.wax(4), 0);
        int[][] ring = {{4, 4}, {4, 5}, {4, 6}, {5, 4}, {5, 6}, {6, 4}, {6, 5}, {6, 6}};
        for (int[] c : ring) {
            WaxTest.put(x, 0, c[0], c[1]);
        }
        Due.is("one", x.wax(4), 1);
        x.lift(4, 4);
        Due.is("open across alone is closed", x.wax(4), 1);
        x.lift(4, 5);
        Due.is("open", x.wax(4), 0);
        // closed by marks on three sides and by the edge: it comes to an edge
        int[][] nooks = {{0, 5}, {11, 5}, {5, 0}, {5, 11}, {0, 0}, {0, 11}, {11, 0}, {11, 11}};
        for (int[] c : nooks) {
            Due.is("at the edge", holesAround(c[0], c[1]), 0);
        }
        int[][] inside = {{1, 5}, {10, 5}, {5, 1}, {5, 10}, {1, 1}, {1, 10}, {10, 1}, {10, 10}};
        for (int[] c : inside) {
            Due.is("beside the edge", holesAround(c[0], c[1]), 1);
        }
    }

    /** HOLES of wax with marks on the sides of one cell alone. */
    private static int holesAround(int row, int column) {
        ThumbBallot x = two();
        int[][] sides = {{row + 1, column}, {row - 1, column}, {row, column + 1}, {row, column - 1}};
        for (int[] s : sides) {
            if (s[0] >= 0 && s[0] < 12 && s[1] >= 0 && s[1] < 12) {
                WaxTest.put(x, 0, s[0], s[1]);
            }
        }
        return x.wax(4);
    }

    private static void face() {
        Due.says("FACE: whether THE WAX is alike left and right (none and none, up and up, down and down): 1, 0");
        int[][] pairs = {{0, 0, 1}, {0, 1, 0}, {1, 0, 0}, {1, 1, 1}, {1, 2, 0}, {2, 1, 0}, {2, 2, 1}, {0, 2, 0}, {2, 0, 0}};
        for (int[] p : pairs) {
            for (int column = 0; column < 6; column++) {
                ThumbBallot x = two();
                if (p[0] > 0) {
                    x.press(p[0] - 1, column);
                }
                if (p[1] > 0) {
                    x.press(p[1] - 1, 11 - column);
                }
                Due.is("FACE", x.wax(5), p[2]);
                Due.is("not so in", x.wax(6), 1 - p[2]);
            }
        }
        Due.says("in how many CELLS of 6 columns not");
        ThumbBallot y = two();
        for (int i = 0; i < 144; i++) {
            y.press(i % 12 < 6 ? 0 : 1, i % 12);
        }
        Due.is("in all", y.wax(6), 72);
        // other voters and depths may differ
        ThumbBallot z = two();
        z.voter(0, 1, 11, 9);
        z.press(0, 2);
        z.press(2, 9);
        Due.is("another's up is up", z.wax(5), 1);
    }

    private static void square(ThumbBallot x, int side, int row, int column) {
        Due.is("side", x.wax(7), side);
        Due.is("row", x.wax(8), row);
        Due.is("column", x.wax(9), column);
    }

    private static void bareSquare() {
        Due.says("BARE: the greatest square without a MARK: its side; its lowest row, its first column");
        ThumbBallot x = two();
        square(x, 12, 0, 0);
        WaxTest.put(x, 0, 6, 6);
        Due.says("(of several the lowest, then the first)");
        square(x, 6, 0, 0);
        WaxTest.put(x, 1, 0, 0);
        square(x, 6, 0, 1);
        WaxTest.put(x, 1, 0, 6);
        square(x, 6, 1, 0);
        Due.says("(No bare CELL: 0, NONE, NONE.)");
        ThumbBallot y = two();
        for (int i = 0; i < 144; i++) {
            y.press(i % 2, i % 12);
        }
        square(y, 0, -1, -1);
        y.lift(11, 11);
        square(y, 1, 11, 11);
        y.lift(11, 0);
        square(y, 1, 11, 0);
        y.lift(4, 7);
        square(y, 1, 4, 7);
    }

    private static void whose() {
        Due.says("WHOSE of a WHORL w, d (0 .. 8): the VOTERS whose WHORL has at most d bits unlike: a set");
        ThumbBallot x = new ThumbBallot();
        for (int i = 0; i <= 8; i++) {
            x.voter((1 << i) - 1, 0, 0, 0);
        }
        for (int d = 0; d <= 8; d++) {
            Due.is("of 0, " + d, x.whose(0, d), (1 << d + 1) - 1);
            Due.is("of 255, " + d, x.whose(255, d), (1 << d + 1) - 1 << 8 - d);
        }
        ThumbBallot y = new ThumbBallot();
        Due.is("no VOTERS", y.whose(0, 8), 0);
        for (int i = 0; i < 20; i++) {
            y.voter(255, 0, 0, 0);
        }
        Due.is("all twenty", y.whose(255, 0), (1 << 20) - 1);
        Due.is("nobody", y.whose(0, 7), 0);
        Due.is("all again", y.whose(0, 8), (1 << 20) - 1);
    }

    private static void nearest() {
        Due.says("the nearest (of several the least; NONE)");
        ThumbBallot x = new ThumbBallot();
        Due.is("NONE", x.whose(0, -1), -1);
        x.voter(255, 0, 0, 0);
        Due.is("however far", x.whose(0, -1), 0);
        x.voter(127, 0, 0, 0);
        Due.is("nearer", x.whose(0, -1), 1);
        x.voter(254, 0, 0, 0);
        Due.is("of several the least", x.whose(0, -1), 1);
        Due.is("himself", x.whose(254, -1), 2);
        for (int i = 3; i < 20; i++) {
            x.voter(255, 0, 0, 0);
        }
        x.set(0, 19, 0);
        Due.is("the last", x.whose(0, -1), 19);
    }

    private static void could() {
        Due.says("COULD: from a VOTER all that could be taken for him, through any twins: a set (himself too)");
        ThumbBallot x = new ThumbBallot();
        for (int i = 0; i < 20; i++) {
            x.voter(0, 0, 0, 0);
        }
        Due.is("himself", x.could(0), 1);
        Due.is("himself", x.could(19), 1 << 19);
        StringBuilder chain = new StringBuilder();
        for (int i = 0; i < 16; i++) {
            chain.append("voter ").append((i * 7 + 7) % 20).append(" twin ").append(i * 7 % 20).append(";");
        }
        Due.reads(x, 3, chain.toString(), 16);
        int set = 0;
        for (int i = 0; i <= 16; i++) {
            set |= 1 << i * 7 % 20;
        }
        for (int i = 0; i < 20; i++) {
            Due.is("could " + i, x.could(i), (set >> i & 1) == 1 ? set : 1 << i);
        }
        Due.reads(x, 3, "voter 1 twin 2;voter 2 twin 3;voter 3 twin 1;", 3);
        Due.is("a round", x.could(2), 14);
        Due.is("not of it", x.could(0), 1);
    }

    private static void party(ThumbBallot x, int... votes) {
        x.party(-1);
        for (int v : votes) {
            x.party(v);
        }
    }

    private static void seatsAre(ThumbBallot x, int n, int how, int... due) {
        for (int i = 0; i < due.length; i++) {
            Due.is("seats " + n + " " + how + " of " + i, x.seats(n, how, i), due[i]);
        }
    }

    private static void seats() {
        Due.says("by votes by seats and 1 (how 0) or by 2 times seats and 1 (how 1)");
        ThumbBallot x = new ThumbBallot();
        party(x, 100, 60, 39);
        seatsAre(x, 1, 0, 1, 0, 0);
        seatsAre(x, 4, 0, 2, 1, 1);
        seatsAre(x, 6, 0, 3, 2, 1);
        seatsAre(x, 4, 1, 2, 1, 1);
        seatsAre(x, 6, 1, 3, 2, 1);
        party(x, 999, 998, 997, 996, 995, 994);
        seatsAre(x, 6, 0, 1, 1, 1, 1, 1, 1);
        seatsAre(x, 7, 0, 2, 1, 1, 1, 1, 1);
        // 999/7 = 142, 998/7 = 142, 997/7 = 142, 996/7 = 142: the first four
        seatsAre(x, 40, 0, 7, 7, 7, 7, 6, 6);
        party(x, 999);
        seatsAre(x, 40, 0, 40);
        seatsAre(x, 40, 1, 40);
    }

    private static void seatsTies() {
        Due.says("to the greatest (of several the first)");
        ThumbBallot x = new ThumbBallot();
        party(x, 5, 5, 5);
        seatsAre(x, 1, 0, 1, 0, 0);
        seatsAre(x, 2, 0, 1, 1, 0);
        seatsAre(x, 3, 1, 1, 1, 1);
        seatsAre(x, 4, 1, 2, 1, 1);
        // 5 by 2 is 2, as 2 is: the first
        party(x, 5, 2);
        seatsAre(x, 2, 0, 2, 0);
        party(x, 2, 5);
        seatsAre(x, 2, 0, 1, 1);
    }

    private static void seatsAllZero() {
        Due.says("(all 0: none more)");
        ThumbBallot x = new ThumbBallot();
        party(x, 0, 0);
        seatsAre(x, 40, 0, 0, 0);
        seatsAre(x, 1, 1, 0, 0);
        party(x, 0, 1, 0);
        seatsAre(x, 40, 0, 0, 1, 0);
        seatsAre(x, 40, 1, 0, 1, 0);
        party(x, 3, 2);
        seatsAre(x, 40, 0, 3, 2);
        seatsAre(x, 40, 1, 2, 1);
    }

    private static void houses(ThumbBallot x, int... row) {
        x.house(-1);
        for (int v : row) {
            x.house(v);
        }
    }

    private static void parishes() {
        Due.says("into k (1 .. 8) parishes of one at least side by side: the most; the fewest");
        ThumbBallot x = new ThumbBallot();
        houses(x, 1);
        Due.is("one", x.parishes(1, 0), 1);
        Due.is("one", x.parishes(1, 1), 1);
        Due.is("none may be empty", x.parishes(2, 0), -1);
        houses(x, 1, 0, 1, 1, 0, 0, 1);
        Due.is("each its own", x.parishes(7, 0), 4);
        Due.is("each its own", x.parishes(7, 1), 4);
        Due.is("8 of 7", x.parishes(8, 0), -1);
        // 1 | 0 1 1 | 0 0 | 1
        Due.is("most of 4", x.parishes(4, 0), 3);
        // wherever the one cut is, just one of both is won
        Due.is("most of 2", x.parishes(2, 0), 1);
        Due.is("fewest of 2", x.parishes(2, 1), 1);
        // 1 0 | 1 1 0 0 | 1
        Due.is("fewest of 3", x.parishes(3, 1), 1);
        int[] all = new int[16];
        java.util.Arrays.fill(all, 1);
        houses(x, all);
        Due.is("all for", x.parishes(8, 0), 8);
        Due.is("all for", x.parishes(8, 1), 8);
        houses(x, new int[16]);
        Due.is("all against", x.parishes(8, 0), 0);
        Due.is("all against", x.parishes(1, 1), 0);
    }

    private static void parishesMoreThanHalf() {
        Due.says("in which more than half are for");
        ThumbBallot x = new ThumbBallot();
        houses(x, 1, 0);
        Due.is("half", x.parishes(1, 0), 0);
        houses(x, 1, 0, 1);
        Due.is("more than half", x.parishes(1, 1), 1);
        houses(x, 1, 0, 0, 1, 1);
        Due.is("3 of 5", x.parishes(1, 0), 1);
        houses(x, 1, 0, 0, 1, 1, 0);
        Due.is("3 of 6", x.parishes(1, 0), 0);
    }

    private static void middle() {
        Due.says("MIDDLE: the least w for which half of all, upwards, are w at most (NONE); FAR");
        ThumbBallot x = new ThumbBallot();
        int[] wishes = {50, 10, 99, 0, 0, 98, 99};
        int[] due = {50, 10, 50, 10, 10, 10, 50};
        int[] far = {0, 40, 89, 139, 149, 237, 99 - 50 + 98 - 50 + 99 - 50 + 40 + 50 + 50};
        Due.is("NONE", x.middle(0), -1);
        Due.is("FAR", x.middle(1), 0);
        for (int i = 0; i < wishes.length; i++) {
            x.wish(wishes[i]);
            Due.is("MIDDLE of " + (i + 1), x.middle(0), due[i]);
            Due.is("FAR of " + (i + 1), x.middle(1), far[i]);
        }
        x.wish(-1);
        for (int i = 0; i < 15; i++) {
            x.wish(i < 8 ? 99 : 0);
        }
        Due.is("8 of 15", x.middle(0), 99);
        Due.is("FAR", x.middle(1), 7 * 99);
    }

    private static void half() {
        Due.says("HALF: the one that is more than half of all (NONE); how many times the dearest is told");
        ThumbBallot x = new ThumbBallot();
        int[] names = {9, 0, 0, 9, 0, 9, 9, 9};
        int[] due = {9, -1, 0, -1, 0, -1, 9, 9};
        int[] times = {1, 1, 2, 2, 3, 3, 4, 5};
        Due.is("NONE", x.middle(2), -1);
        Due.is("0", x.middle(3), 0);
        for (int i = 0; i < names.length; i++) {
            x.name(names[i]);
            Due.is("HALF of " + (i + 1), x.middle(2), due[i]);
            Due.is("times of " + (i + 1), x.middle(3), times[i]);
        }
    }

    private static void candles() {
        Due.says("how many of 0 .. n (0 .. 400) are the sum of some of them (none: 0); the greatest of these");
        ThumbBallot x = new ThumbBallot();
        Due.is("none told", x.candles(400, 0), 1);
        Due.is("none told", x.candles(400, 1), 0);
        x.candle(3);
        x.candle(3);
        x.candle(7);
        int[] sums = {0, 3, 6, 7, 10, 13};
        for (int n = 0; n <= 14; n++) {
            int count = 0;
            int greatest = 0;
            for (int s : sums) {
                count += s <= n ? 1 : 0;
                greatest = s <= n ? s : greatest;
            }
            Due.is("how many of 0 .. " + n, x.candles(n, 0), count);
            Due.is("greatest of 0 .. " + n, x.candles(n, 1), greatest);
        }
        x.candle(-1);
        for (int i = 0; i < 8; i++) {
            x.candle(50 - (i == 7 ? 49 : 0));
        }
        Due.is("up to 351", x.candles(400, 1), 351);
        Due.is("sixteen", x.candles(400, 0), 16);
        Due.is("not 351", x.candles(350, 1), 350);
        Due.is("fifteen", x.candles(350, 0), 15);
        x.candle(-1);
        for (int i = 0; i < 8; i++) {
            x.candle(50);
        }
        Due.is("all", x.candles(400, 1), 400);
        Due.is("nine", x.candles(400, 0), 9);
        Due.is("not all", x.candles(399, 1), 350);
    }

    private static void stack() {
        Due.says("STACK: the most that can be stacked, each bears all above it");
        ThumbBallot x = new ThumbBallot();
        Due.is("none", x.stack(), 0);
        x.door(50, 0);
        Due.is("one bears nothing", x.stack(), 1);
        x.door(50, 0);
        Due.is("neither bears the other", x.stack(), 1);
        x.door(50, 49);
        Due.is("one too weak", x.stack(), 1);
        x.door(1, 50);
        Due.is("just", x.stack(), 2);
        x.door(50, 200);
        Due.is("all above", x.stack(), 3);
        x.door(-1, 0);
        // each alone bears the next, but not all above it
        x.door(10, 10);
        x.door(10, 10);
        x.door(10, 10);
        Due.is("all above it, not the next alone", x.stack(), 2);
        x.door(10, 20);
        Due.is("three", x.stack(), 3);
        // 200 is the most that one bears: 50 four times above it, not five
        x.door(-1, 0);
        for (int i = 0; i < 8; i++) {
            x.door(50, 200);
        }
        Due.is("five", x.stack(), 5);
        x.door(-1, 0);
        for (int i = 0; i < 8; i++) {
            x.door(25, 25 * i);
        }
        Due.is("all eight", x.stack(), 8);
    }

    private static void oneBehindAnother() {
        Due.says("IN THOUGHT (nothing of it stays)");
        ThumbBallot x = new ThumbBallot();
        party(x, 900, 400);
        houses(x, 1, 0, 1, 1, 0);
        x.candle(7);
        x.candle(9);
        x.door(5, 5);
        x.door(5, 0);
        x.before(7, 0);
        x.before(6, 1);
        for (int i = 0; i < 36; i++) {
            // each thought behind each other one
            thought(x, i / 6);
            thought(x, i % 6);
        }
    }

    private static void thought(ThumbBallot x, int which) {
        switch (which) {
            case 0 -> Due.is("seats", x.seats(40, 0, 0), 28);
            case 1 -> Due.is("parishes", x.parishes(2, 1), 1);
            case 2 -> Due.is("candles", x.candles(400, 0), 4);
            case 3 -> Due.is("stack", x.stack(), 2);
            case 4 -> Due.is("order", x.order(), 10080);
            default -> Due.is("bills", x.bills(1), 255);
        }
    }

    private static void lanternIs(ThumbBallot x, int h, int count, int last) {
        Due.is("how many up to " + h, x.lantern(h, 0), count);
        Due.is("the last up to " + h, x.lantern(h, 1), last);
    }

    private static void lantern() {
        Due.says("shows each that is higher than all ahead of it (the first always), up to h: how many; which is the last");
        ThumbBallot x = new ThumbBallot();
        lanternIs(x, 40, 0, -1);
        x.stands(0);
        lanternIs(x, 0, 1, 0);
        x.stands(0);
        lanternIs(x, 40, 1, 0);
        x.stands(30);
        lanternIs(x, 29, 1, 0);
        lanternIs(x, 30, 2, 2);
        x.stands(29);
        x.stands(30);
        lanternIs(x, 40, 2, 2);
        x.stands(-1);
        x.stands(5);
        x.stands(9);
        x.stands(7);
        x.stands(12);
        lanternIs(x, 4, 0, -1);
        lanternIs(x, 5, 1, 0);
        lanternIs(x, 8, 1, 0);
        lanternIs(x, 9, 2, 1);
        lanternIs(x, 11, 2, 1);
        lanternIs(x, 12, 3, 3);
    }

    private static void billsAre(ThumbBallot x, int most, int set, int ways) {
        Due.is("TOGETHER", x.bills(0), most);
        Due.is("a set", x.bills(1), set);
        Due.is("WAYS", x.bills(2), ways);
    }

    private static void together() {
        Due.says("TOGETHER: the most bills that do: how many; a set (of several the least); WAYS");
        ThumbBallot x = new ThumbBallot();
        billsAre(x, 8, 255, 256);
        x.bill(7, 0);
        billsAre(x, 7, 127, 192);
        x.bill(0, 7);
        billsAre(x, 7, 127, 192);
        x.bill(0, 1);
        billsAre(x, 7, 254, 160);
        x.bill(-1, 0);
        for (int i = 0; i < 8; i++) {
            x.bill(i, (i + 1) % 8);
        }
        // every other one round eight: of several the least; 47 is Lucas' number of eight
        billsAre(x, 4, 85, 47);
        x.bill(0, 2);
        x.bill(0, 4);
        x.bill(0, 6);
        x.bill(3, 5);
        Due.is("twelve are told", x.bill(4, 6), -1);
        // 1 3 6 is less than 2 4 6; no four go together
        billsAre(x, 3, 1 << 1 | 1 << 3 | 1 << 6, bruteWays());
    }

    private static int bruteWays() {
        int[][] no = {{0, 1}, {1, 2}, {2, 3}, {3, 4}, {4, 5}, {5, 6}, {6, 7}, {7, 0}, {0, 2}, {0, 4}, {0, 6}, {3, 5}};
        int ways = 0;
        for (int set = 0; set < 256; set++) {
            boolean fine = true;
            for (int[] n : no) {
                fine &= (set >> n[0] & 1) == 0 || (set >> n[1] & 1) == 0;
            }
            ways += fine ? 1 : 0;
        }
        return ways;
    }

    private static void order() {
        Due.says("ORDER: a of 0 .. 7 stands before b: in how many rows of all eight (0: none)");
        ThumbBallot x = new ThumbBallot();
        Due.is("all", x.order(), 40320);
        x.before(0, 7);
        Due.is("half of all", x.order(), 20160);
        x.before(0, 7);
        Due.is("told twice", x.order(), 20160);
        x.before(7, 0);
        Due.is("none", x.order(), 0);
        x.before(-1, 0);
        for (int i = 0; i < 7; i++) {
            x.before(i + 1, i);
        }
        Due.is("one alone", x.order(), 1);
        x.before(0, 7);
        Due.is("a round of eight", x.order(), 0);
    }

    private static void gameIs(int cells, int value, int first) {
        ThumbBallot x = new ThumbBallot();
        Due.is("VALUE of " + cells, x.game(cells, 0), value);
        Due.is("the first cell of " + cells, x.game(cells, 1), first);
        Due.is("VALUE again of " + cells, x.game(cells, 0), value);
    }

    private static void gameCannot(int cells) {
        gameIs(cells, -10, -10);
    }

    private static void gameThatCanBe() {
        Due.says("nine told cells 0 bare, 1 up, 2 down; up begins: as many up as down, or one more; not three of both");
        gameIs(0, 0, 0);
        gameIs(1, 0, 4);
        gameIs(100000000, 0, 4);
        gameCannot(2);
        gameCannot(200000000);
        gameCannot(11);
        gameCannot(110000000);
        gameCannot(122);
        gameCannot(3);
        gameCannot(300000000);
        gameCannot(912000000);
        gameCannot(-1);
        gameCannot(-12);
        gameCannot(1000000000);
        gameCannot(1000000012);
        gameCannot(222222223);
        gameCannot(Integer.MAX_VALUE);
        gameCannot(Integer.MIN_VALUE);
        gameCannot(111222000);
        gameCannot(111222001);
        gameCannot(112112112);
    }

    private static void gameThree() {
        Due.says("three alike in a row, column or across win");
        int[][] lines = {{0, 1, 2}, {3, 4, 5}, {6, 7, 8}, {0, 3, 6}, {1, 4, 7}, {2, 5, 8}, {0, 4, 8}, {2, 4, 6}};
        for (int[] line : lines) {
            for (int who = 1; who <= 2; who++) {
                int[] cells = new int[9];
                for (int c : line) {
                    cells[c] = who;
                }
                // the other's marks, which make no three: so that who has lost is next
                int other = who == 1 ? 2 : 3;
                for (int c = 0; c < 9 && other > 0; c++) {
                    if (cells[c] == 0) {
                        cells[c] = 3 - who;
                        if (three(cells, 3 - who, lines)) {
                            cells[c] = 0;
                        } else {
                            other--;
                        }
                    }
                }
                gameIs(number(cells), -1, -1);
            }
        }
    }

    private static boolean three(int[] cells, int who, int[][] lines) {
        for (int[] l : lines) {
            if (cells[l[0]] == who && cells[l[1]] == who && cells[l[2]] == who) {
                return true;
            }
        }
        return false;
    }

    private static int number(int[] cells) {
        int n = 0;
        for (int c : cells) {
            n = 10 * n + c;
        }
        return n;
    }

    private static void gameOver() {
        Due.says("it is over already: so for who is next; the first cell (NONE: over)");
        gameIs(111220000, -1, -1);
        gameIs(222110100, -1, -1);
        // as many up as down, and up, who is next, has three
        gameIs(111220020, 1, -1);
        // full, neither has three
        gameIs(121211212, 0, -1);
        // full, and up has three: down would be next
        gameIs(111221212, -1, -1);
    }

    private static void gameBestPlayed() {
        Due.says("best played by both (1 wins, 0 neither, -1 loses); the first cell that keeps it");
        gameIs(110220000, 1, 2);
        gameIs(110200000, -1, 2);
        gameIs(100020001, 0, 1);
        gameIs(10000, 0, 0);
        // one bare cell is left: it wins, or neither does
        gameIs(121212210, 1, 8);
        gameIs(112221120, 0, 8);
        gameIs(112221012, 0, 6);
        // two are left: down must take the last one
        gameIs(122211010, 0, 8);
    }

    private static void undoGoesBack() {
        Due.says("the latest HOUR, PRESS, LIFT, HAND not undone yet goes back (STATE, THE BOOK, too)");
        ThumbBallot x = two();
        Due.text(x, 0, "comes 900;");
        Due.text(x, 1, "voter 0 at 0 to 0;voter 1 at 0 to 1;voter 1 at 11 to 1;");
        Due.text(x, 2, "on 0 heat 9 at 0;on 0 mind 1 for;");
        x.state(99);
        int[] first = Due.seen(x);
        x.press(0, 7);
        int[] second = Due.seen(x);
        x.hours(1);
        int[] third = Due.seen(x);
        x.hand(0, 1);
        x.lift(0, 7);
        Due.yes("LIFT", x.undo());
        Due.yes("HAND", x.undo());
        Due.same("undo of HAND", Due.seen(x), third);
        Due.yes("HOUR", x.undo());
        Due.same("undo of HOUR", Due.seen(x), second);
        Due.yes("PRESS", x.undo());
        Due.same("undo of PRESS", Due.seen(x), first);
        Due.no("no more", x.undo());
    }

    private static void sixAreKept() {
        Due.says("6 are kept");
        ThumbBallot x = two();
        for (int i = 0; i < 12; i++) {
            x.press(0, i);
            Due.is("kept", x.look(13), Math.min(i + 1, 6));
        }
        for (int i = 0; i < 6; i++) {
            Due.yes("undo", x.undo());
            Due.is("MARKS", x.look(1), 11 - i);
            Due.is("kept", x.look(13), 5 - i);
        }
        Due.no("the seventh", x.undo());
        Due.is("MARKS", x.look(1), 6);
        x.hours(60);
        Due.is("of 60 HOURS six", x.look(13), 6);
        for (int i = 0; i < 6; i++) {
            Due.yes("undo", x.undo());
        }
        Due.no("the seventh", x.undo());
        Due.is("HOUR", x.look(3), 6);
        Due.is("DAY", x.look(4), 4);
        x.hours(7);
        for (int i = 0; i < 6; i++) {
            Due.yes("undo", x.undo());
        }
        Due.no("the seventh", x.undo());
        Due.is("HOUR", x.look(3), 7);
    }

    private static void forgot(String what, ThumbBallot x) {
        Due.is(what + " forgets", x.look(13), 0);
        Due.no("undo behind " + what, x.undo());
        x.press(0, 0);
        Due.is("kept", x.look(13), 1);
    }

    private static void undoForgets() {
        Due.says("whatever else is told .. forgets them");
        ThumbBallot x = two();
        x.image(true);
        x.press(0, 0);
        x.state(0);
        forgot("state", x);
        x.voter(0, 0, 0, 0);
        forgot("voter", x);
        for (int what = 0; what <= 4; what++) {
            x.set(what, 0, 1);
            forgot("set " + what, x);
        }
        x.text(1);
        forgot("WAYS", x);
        x.text(2);
        forgot("SKY", x);
        x.image(false);
        forgot("THE IMAGE gone back to", x);
    }

    private static void undoKeeps() {
        Due.says("but THE LAW, TWINS and what is told for thought (the taking of THE IMAGE does not)");
        ThumbBallot x = two();
        x.press(0, 0);
        String[] told = {"the law", "twins", "party", "house", "wish", "name", "candle", "door", "stands", "bill",
            "before", "game", "image"};
        for (int i = 0; i < told.length; i++) {
            switch (i) {
                case 0 -> Due.text(x, 0, "comes 1;");
                case 1 -> Due.text(x, 3, "voter 0 twin 1;");
                case 2 -> x.party(1);
                case 3 -> x.house(1);
                case 4 -> x.wish(1);
                case 5 -> x.name(1);
                case 6 -> x.candle(1);
                case 7 -> x.door(1, 1);
                case 8 -> x.stands(1);
                case 9 -> x.bill(1, 2);
                case 10 -> x.before(1, 2);
                case 11 -> x.game(0, 0);
                default -> x.image(true);
            }
            Due.is(told[i] + " keeps", x.look(13), 1);
        }
        Due.yes("undo", x.undo());
        Due.is("THE LAW stays", x.of(0, 6), 1);
        Due.is("TWINS stay", x.of(0, 7), 2);
        Due.is("parties stay", x.party(1), 2);
        Due.is("houses stay", x.house(1), 2);
        Due.is("wishes stay", x.wish(1), 2);
        Due.is("names stay", x.name(1), 2);
        Due.is("candles stay", x.candle(1), 2);
        Due.is("doors stay", x.door(1, 1), 2);
        Due.is("heights stay", x.stands(1), 2);
        Due.is("couples stay", x.bill(1, 2), 2);
        Due.is("pairs stay", x.before(1, 2), 2);
        Due.yes("THE IMAGE stays", x.image(false));
        Due.is("as it was taken, with the MARK", x.look(1), 1);
    }

    private static void imageAll() {
        Due.says("THE IMAGE: all that is and was told but the TAPE, fault() and what can be undone (nothing then)");
        ThumbBallot x = two();
        Due.text(x, 0, "comes 900;melts 300;");
        Due.text(x, 1, "voter 0 at 0 to 0;");
        Due.text(x, 2, "on 0 heat 9 at 0;");
        Due.text(x, 3, "voter 0 twin 1;");
        x.state(7);
        x.hours(5);
        x.press(0, 3);
        int[] was = Due.seen(x);
        x.image(true);
        x.hours(17);
        x.voter(9, 0, 0, 0);
        x.set(1, 0, 0);
        x.set(4, 0, 4);
        x.hand(1, 2);
        x.state(8);
        for (int k = 0; k < 4; k++) {
            x.text(k);
        }
        Due.feed(x, "comes?");
        x.text(0);
        Due.feed(x, "melts 1;comes 77;");
        Due.yes("gone back", x.image(false));
        was[13] = 0;
        Due.same("image", Due.seen(x), was);
        Due.is("fault(0) is that of the latest text()", x.fault(0), 1);
        Due.is("fault(1)", x.fault(1), 5);
        Due.is("the TAPE stays", x.text(0), 2);
        Due.is("comes", x.of(0, 6), 77);
    }

    private static void imageMoreThanOnce() {
        Due.says("as it was when it was taken; gone back to it may be more than once");
        ThumbBallot x = two();
        x.press(0, 0);
        x.image(true);
        for (int i = 0; i < 3; i++) {
            x.press(1, 5);
            x.press(1, 0);
            x.undo();
            x.party(3);
            x.stands(4);
            Due.yes("gone back", x.image(false));
            Due.is("MARKS", x.look(1), 1);
            Due.is("lines", x.look(7), 1);
            Due.is("whose", x.cell(0, 0, 0), 0);
            Due.is("no party", x.seats(1, 0, 0), -1);
            Due.is("no height", x.lantern(40, 0), 0);
        }
        x.press(0, 1);
        x.image(true);
        x.hours(12);
        Due.yes("the later one", x.image(false));
        Due.is("MARKS", x.look(1), 2);
    }

    private static void imageFull() {
        Due.says("THE IMAGE: all that was told, up to as many as can be");
        ThumbBallot x = new ThumbBallot();
        for (int i = 0; i < 20; i++) {
            x.voter(i, 1, 11, 0);
        }
        int[] room = {6, 16, 15, 15, 8, 8, 12, 12, 12};
        for (int list = 0; list < room.length; list++) {
            for (int i = 0; i < room[list]; i++) {
                Due.is("how many", tell(x, list, 1), i + 1);
            }
        }
        Due.yes("taken", x.image(true));
        for (int list = 0; list < room.length; list++) {
            Due.is("none is then", tell(x, list, -1), 0);
        }
        Due.yes("gone back", x.image(false));
        for (int list = 0; list < room.length; list++) {
            Due.is("full again", tell(x, list, 1), -1);
        }
        Due.is("VOTERS", x.voter(0, 0, 0, 0), -1);
        Due.is("the last party", x.seats(6, 0, 5), 1);
        Due.is("the last house", x.parishes(8, 1), 8);
        Due.is("all names", x.middle(3), 15);
        Due.is("all candles", x.candles(400, 1), 8);
    }

    private static int tell(ThumbBallot x, int list, int v) {
        return switch (list) {
            case 0 -> x.party(v);
            case 1 -> x.house(v);
            case 2 -> x.wish(v);
            case 3 -> x.name(v);
            case 4 -> x.candle(v);
            case 5 -> x.door(v, 1);
            case 6 -> x.stands(v);
            case 7 -> x.bill(v, 2);
            default -> x.before(v, 2);
        };
    }

    /** What is undone and written anew does not reach the image. */
    private static void imageBook() {
        Due.says("THE IMAGE: all that is: THE BOOK");
        ThumbBallot x = two();
        x.press(0, 1);
        x.press(0, 2);
        x.image(true);
        x.undo();
        x.undo();
        x.press(1, 8);
        x.press(1, 9);
        x.press(1, 10);
        x.image(false);
        Due.is("lines", x.look(7), 2);
        for (int i = 0; i < 2; i++) {
            Due.is("who", x.book(i, 3), 0);
            Due.is("how much", x.book(i, 4), i + 1);
        }
        Due.is("no more", x.book(2, 4), -10000);
        // the last of 150 lines, too
        for (int i = 2; i < 150; i++) {
            x.press(0, 3);
        }
        x.image(true);
        x.undo();
        x.press(1, 4);
        Due.is("written anew", x.book(149, 4), 4);
        x.image(false);
        Due.is("as it was", x.book(149, 4), 11 * 12 + 3);
    }

    private static void imageThought() {
        Due.says("THE IMAGE: all that was told: for thought");
        ThumbBallot x = new ThumbBallot();
        for (int round = 0; round < 2; round++) {
            x.party(100 - 60 * round);
            x.house(1);
            x.house(round);
            x.wish(10 + round);
            x.name(3);
            x.candle(5);
            x.door(4, 10);
            x.stands(6);
            x.bill(1, 2);
            x.before(1, 2);
        }
        x.image(true);
        for (int round = 0; round < 3; round++) {
            x.party(-1);
            x.party(1);
            x.house(-1);
            x.house(0);
            x.wish(-1);
            x.wish(99);
            x.name(-1);
            x.name(9);
            x.candle(-1);
            x.candle(50);
            x.door(-1, 0);
            x.door(50, 0);
            x.stands(-1);
            x.stands(30);
            x.bill(-1, 0);
            x.bill(6, 7);
            x.before(-1, 0);
            x.before(7, 6);
            x.before(6, 7);
            Due.yes("gone back", x.image(false));
            Due.is("parties", x.seats(7, 0, 0) * 10 + x.seats(7, 0, 1), 52);
            Due.is("houses", x.parishes(4, 0), 3);
            Due.is("wishes", x.middle(0) * 10 + x.middle(1), 101);
            Due.is("names", x.middle(2) * 10 + x.middle(3), 32);
            Due.is("candles", x.candles(400, 0) * 100 + x.candles(400, 1), 310);
            Due.is("doors", x.stack(), 2);
            Due.is("heights", x.lantern(6, 0), 1);
            Due.is("couples", x.bills(2), 192);
            Due.is("pairs", x.order(), 20160);
        }
        Due.is("how many parties", x.party(1), 3);
        Due.is("how many houses", x.house(1), 5);
    }
}
