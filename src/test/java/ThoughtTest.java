/** Promises 20 to 37: what is told for thought, and what comes of it. */
public final class ThoughtTest {
    public static void main(String[] args) {
        seats();
        parishes();
        middle();
        half();
        candles();
        stack();
        lantern();
        bills();
        order();
        game();
        Due.finish();
    }

    private static void seats() {
        ThumbBallot x = new ThumbBallot();
        Due.is("none told", x.seats(5, 0, 0), -1);
        Due.is("bare", x.party(-1), 0);
        Due.is("1000", x.party(1000), -1);
        Due.is("-2", x.party(-2), -1);
        Due.is("1", x.party(999), 1);
        for (int i = 2; i <= 6; i++) {
            Due.is("party", x.party(0), i);
        }
        Due.is("the seventh", x.party(5), -1);
        Due.is("all to one", x.seats(40, 0, 0), 40);
        Due.is("none to none", x.seats(40, 0, 5), 0);
        int[][] no = {{0, 0, 0}, {41, 0, 0}, {-1, 0, 0}, {1, 2, 0}, {1, -1, 0}, {1, 0, 6}, {1, 0, -1}};
        for (int[] n : no) {
            Due.is("can't", x.seats(n[0], n[1], n[2]), -1);
        }
        Due.is("none then", x.party(-1), 0);
        Due.is("can't", x.seats(1, 0, 0), -1);
        x.party(0);
        x.party(0);
        Due.is("all 0", x.seats(7, 0, 0), 0);
        x.party(-1);
        x.party(10);
        x.party(10);
        Due.is("of several the first", x.seats(1, 0, 0), 1);
        Due.is("then the second", x.seats(2, 0, 1), 1);
        Due.is("first again", x.seats(3, 1, 0), 2);
        x.party(-1);
        x.party(100);
        x.party(60);
        x.party(39);
        int[][] due = {{3, 2, 1}, {3, 1, 1}, {3, 2, 1}};
        for (int i = 0; i < 3; i++) {
            Due.is("six by seats and 1", x.seats(6, 0, i), due[0][i]);
            Due.is("five by twice", x.seats(5, 1, i), due[1][i]);
            Due.is("six by twice", x.seats(6, 1, i), due[2][i]);
        }
        // quotients go downwards: 7/2 and 3 are alike, and below 1 none is given
        x.party(-1);
        x.party(3);
        x.party(7);
        Due.is("the first of alike", x.seats(2, 0, 0), 1);
        Due.is("the first of alike", x.seats(2, 0, 1), 1);
        Due.is("none more", x.seats(40, 0, 0), 3);
        Due.is("none more", x.seats(40, 0, 1), 7);
        Due.is("none more", x.seats(40, 1, 0), 2);
        Due.is("none more", x.seats(40, 1, 1), 4);
    }

    private static void parishes() {
        ThumbBallot x = new ThumbBallot();
        Due.is("none", x.parishes(1, 0), -1);
        Due.is("2", x.house(2), -1);
        Due.is("-2", x.house(-2), -1);
        Due.is("bare", x.house(-1), 0);
        int[] row = {1, 0, 0, 1, 1, 0, 1, 0};
        for (int i = 0; i < row.length; i++) {
            Due.is("house", x.house(row[i]), i + 1);
        }
        Due.is("half is not more than half", x.parishes(1, 0), 0);
        Due.is("most of 2", x.parishes(2, 0), 1);
        Due.is("fewest of 2", x.parishes(2, 1), 0);
        Due.is("most of 3", x.parishes(3, 0), 2);
        Due.is("most of 4", x.parishes(4, 0), 2);
        Due.is("most of 5", x.parishes(5, 0), 3);
        Due.is("fewest of 4", x.parishes(4, 1), 0);
        Due.is("each its own", x.parishes(8, 0), 4);
        Due.is("each its own", x.parishes(8, 1), 4);
        int[][] no = {{0, 0}, {-1, 0}, {9, 0}, {1, 2}, {1, -1}};
        for (int[] n : no) {
            Due.is("can't", x.parishes(n[0], n[1]), -1);
        }
        for (int i = 9; i <= 16; i++) {
            Due.is("house", x.house(1), i);
        }
        Due.is("the 17th", x.house(1), -1);
        Due.is("9 parishes", x.parishes(9, 0), -1);
        Due.is("8 of 16", x.parishes(8, 0), 8);
        Due.is("bare", x.house(-1), 0);
        x.house(1);
        Due.is("more than houses", x.parishes(2, 0), -1);
        Due.is("one", x.parishes(1, 1), 1);
    }

    private static void middle() {
        ThumbBallot x = new ThumbBallot();
        Due.is("none", x.middle(0), -1);
        Due.is("none", x.middle(1), 0);
        Due.is("100", x.wish(100), -1);
        Due.is("-2", x.wish(-2), -1);
        Due.is("wish", x.wish(99), 1);
        Due.is("middle", x.middle(0), 99);
        Due.is("far", x.middle(1), 0);
        Due.is("wish", x.wish(0), 2);
        Due.is("the lower", x.middle(0), 0);
        Due.is("far", x.middle(1), 99);
        Due.is("wish", x.wish(40), 3);
        Due.is("middle", x.middle(0), 40);
        Due.is("far", x.middle(1), 99);
        for (int i = 4; i <= 15; i++) {
            Due.is("wish", x.wish(i), i);
        }
        Due.is("the 16th", x.wish(1), -1);
        Due.is("middle", x.middle(0), 10);
        Due.is("what", x.middle(4), -1);
        Due.is("what", x.middle(-1), -1);
        Due.is("bare", x.wish(-1), 0);
        Due.is("none", x.middle(0), -1);
    }

    private static void half() {
        ThumbBallot x = new ThumbBallot();
        Due.is("none", x.middle(2), -1);
        Due.is("none", x.middle(3), 0);
        Due.is("10", x.name(10), -1);
        Due.is("-2", x.name(-2), -1);
        Due.is("name", x.name(9), 1);
        Due.is("half", x.middle(2), 9);
        Due.is("name", x.name(0), 2);
        Due.is("half is not more", x.middle(2), -1);
        Due.is("times", x.middle(3), 1);
        Due.is("name", x.name(0), 3);
        Due.is("half", x.middle(2), 0);
        Due.is("times", x.middle(3), 2);
        for (int i = 4; i <= 15; i++) {
            Due.is("name", x.name(9), i);
        }
        Due.is("the 16th", x.name(9), -1);
        Due.is("times", x.middle(3), 13);
        Due.is("half", x.middle(2), 9);
        Due.is("bare", x.name(-1), 0);
        Due.is("none", x.middle(3), 0);
    }

    private static void candles() {
        ThumbBallot x = new ThumbBallot();
        Due.is("0 alone", x.candles(0, 0), 1);
        Due.is("0 alone", x.candles(400, 1), 0);
        Due.is("0", x.candle(0), -1);
        Due.is("51", x.candle(51), -1);
        Due.is("-2", x.candle(-2), -1);
        for (int i = 1; i <= 8; i++) {
            Due.is("candle", x.candle(50), i);
        }
        Due.is("the ninth", x.candle(1), -1);
        Due.is("all", x.candles(400, 0), 9);
        Due.is("greatest", x.candles(400, 1), 400);
        Due.is("399", x.candles(399, 0), 8);
        Due.is("399", x.candles(399, 1), 350);
        int[][] no = {{-1, 0}, {401, 0}, {5, 2}, {5, -1}};
        for (int[] n : no) {
            Due.is("can't", x.candles(n[0], n[1]), -1);
        }
        Due.is("bare", x.candle(-1), 0);
        Due.is("1", x.candle(1), 1);
        Due.is("0 and 1", x.candles(1, 0), 2);
        x.candle(-1);
        x.candle(3);
        x.candle(3);
        Due.is("each once", x.candles(100, 0), 3);
        Due.is("greatest", x.candles(5, 1), 3);
        Due.is("greatest", x.candles(100, 1), 6);
    }

    private static void stack() {
        ThumbBallot x = new ThumbBallot();
        Due.is("none", x.stack(), 0);
        int[][] no = {{0, 5}, {51, 5}, {-2, 5}, {5, -1}, {5, 201}};
        for (int[] n : no) {
            Due.is("can't", x.door(n[0], n[1]), -1);
        }
        Due.is("door", x.door(50, 0), 1);
        Due.is("one", x.stack(), 1);
        Due.is("door", x.door(1, 50), 2);
        Due.is("two", x.stack(), 2);
        Due.is("door", x.door(50, 0), 3);
        Due.is("two", x.stack(), 2);
        Due.is("door", x.door(50, 100), 4);
        Due.is("door", x.door(1, 51), 5);
        Due.is("four", x.stack(), 4);
        for (int i = 6; i <= 8; i++) {
            Due.is("door", x.door(50, 200), i);
        }
        Due.is("the ninth", x.door(1, 1), -1);
        Due.is("six", x.stack(), 6);
        Due.is("bare", x.door(-1, -1), 0);
        Due.is("none", x.stack(), 0);
        for (int i = 0; i < 8; i++) {
            x.door(10, 10 * i);
        }
        Due.is("all", x.stack(), 8);
        Due.is("bare", x.door(-1, 7), 0);
        for (int i = 0; i < 8; i++) {
            x.door(10, 10 * i - (i == 7 ? 1 : 0));
        }
        Due.is("one less", x.stack(), 7);
    }

    private static void lantern() {
        ThumbBallot x = new ThumbBallot();
        Due.is("none", x.lantern(0, 0), 0);
        Due.is("none", x.lantern(40, 1), -1);
        Due.is("31", x.stands(31), -1);
        Due.is("-2", x.stands(-2), -1);
        Due.is("stands", x.stands(0), 1);
        Due.is("the first always", x.lantern(0, 0), 1);
        Due.is("the first always", x.lantern(0, 1), 0);
        Due.is("stands", x.stands(0), 2);
        Due.is("not as high", x.lantern(40, 0), 1);
        int[] row = {5, 4, 5, 9, 3, 30, 30, 1};
        for (int i = 0; i < row.length; i++) {
            Due.is("stands", x.stands(row[i]), i + 3);
        }
        Due.is("up to 4", x.lantern(4, 0), 1);
        Due.is("up to 5", x.lantern(5, 0), 2);
        Due.is("up to 5", x.lantern(5, 1), 2);
        Due.is("up to 9", x.lantern(9, 1), 5);
        Due.is("all", x.lantern(40, 0), 4);
        Due.is("all", x.lantern(30, 1), 7);
        x.stands(1);
        Due.is("stands", x.stands(1), 12);
        Due.is("the 13th", x.stands(1), -1);
        int[][] no = {{-1, 0}, {41, 0}, {5, 2}, {5, -1}};
        for (int[] n : no) {
            Due.is("can't", x.lantern(n[0], n[1]), -1);
        }
        Due.is("bare", x.stands(-1), 0);
        x.stands(9);
        Due.is("too high", x.lantern(8, 0), 0);
        Due.is("too high", x.lantern(8, 1), -1);
    }

    private static void pairsThatCannotBe(ThumbBallot x, boolean bill) {
        int[][] no = {{3, 3}, {8, 0}, {0, 8}, {-2, 0}, {0, -1}, {0, -2}};
        for (int[] n : no) {
            Due.is("can't", bill ? x.bill(n[0], n[1]) : x.before(n[0], n[1]), -1);
        }
    }

    private static void bills() {
        ThumbBallot x = new ThumbBallot();
        pairsThatCannotBe(x, true);
        Due.is("bill", x.bill(0, 7), 1);
        Due.is("most", x.bills(0), 7);
        Due.is("the least set", x.bills(1), 127);
        Due.is("ways", x.bills(2), 192);
        Due.is("the same again", x.bill(7, 0), 2);
        Due.is("ways", x.bills(2), 192);
        for (int i = 1; i < 7; i++) {
            Due.is("bill", x.bill(7, i), i + 2);
        }
        Due.is("most", x.bills(0), 7);
        Due.is("set", x.bills(1), 127);
        Due.is("ways", x.bills(2), 129);
        Due.is("what", x.bills(3), -1);
        Due.is("what", x.bills(-1), -1);
        for (int i = 9; i <= 12; i++) {
            Due.is("bill", x.bill(0, 1), i);
        }
        Due.is("the 13th", x.bill(0, 1), -1);
        Due.is("of several the least", x.bills(1), 125);
        Due.is("bare", x.bill(-1, 99), 0);
        Due.is("all", x.bills(1), 255);
    }

    private static void order() {
        ThumbBallot x = new ThumbBallot();
        Due.is("all", x.order(), 40320);
        pairsThatCannotBe(x, false);
        Due.is("before", x.before(7, 0), 1);
        Due.is("half", x.order(), 20160);
        Due.is("again", x.before(7, 0), 2);
        Due.is("half", x.order(), 20160);
        Due.is("again", x.order(), 20160);
        Due.is("before", x.before(6, 0), 3);
        Due.is("a third", x.order(), 13440);
        for (int i = 1; i < 6; i++) {
            Due.is("before", x.before(i, i - 1), i + 3);
        }
        Due.is("a chain and two", x.order(), 42);
        for (int i = 9; i <= 12; i++) {
            Due.is("before", x.before(6, 5), i);
        }
        Due.is("the 13th", x.before(6, 5), -1);
        Due.is("bare", x.before(-1, 3), 0);
        x.before(0, 1);
        x.before(1, 0);
        Due.is("no row", x.order(), 0);
        x.before(-1, 0);
        Due.is("all again", x.order(), 40320);
    }

    private static void game() {
        ThumbBallot x = new ThumbBallot();
        int[][] due = {
            {0, 0, 0}, {100000000, 0, 4}, {10000, 0, 0}, {1000000, 0, 4},
            {110220000, 1, 2}, {112200000, 1, 4}, {110200000, -1, 2},
            {111220000, -1, -1}, {222110100, -1, -1}, {111220020, 1, -1},
            {121122212, -10, -10}, {121122211, 0, -1}, {121211212, 0, -1},
            {100010002, 0, 2}, {111222000, -10, -10}, {111221220, 1, -1},
            {200000000, -10, -10}, {110000000, -10, -10}, {3, -10, -10}, {130000002, -10, -10},
            {-1, -10, -10}, {1000000000, -10, -10}, {Integer.MAX_VALUE, -10, -10}, {Integer.MIN_VALUE, -10, -10}};
        for (int[] d : due) {
            Due.is("value " + d[0], x.game(d[0], 0), d[1]);
            Due.is("first " + d[0], x.game(d[0], 1), d[2]);
        }
        Due.is("what", x.game(0, 2), -10);
        Due.is("what", x.game(0, -1), -10);
        Plain y = new Plain();
        for (int board = 0; board < 19683; board++) {
            // an object is used for 512 calls at most
            x = board % 200 == 0 ? new ThumbBallot() : x;
            int cells = Integer.parseInt(Integer.toString(board, 3));
            Due.is("value " + cells, x.game(cells, 0), y.game(cells, 0));
            Due.is("first " + cells, x.game(cells, 1), y.game(cells, 1));
        }
    }
}
