import java.util.function.IntUnaryOperator;

/** Promises 1 to 40: what each call answers when one can't be, and that it changes nothing then. */
public final class CallsTest {
    private static final int LEAST = Integer.MIN_VALUE;
    private static final int MOST = Integer.MAX_VALUE;

    public static void main(String[] args) {
        newObject();
        state();
        voter();
        voterTwenty();
        set();
        press();
        lift();
        hand();
        hours();
        hoursToTheLastDay();
        feed();
        feedFourHundred();
        end();
        text();
        textStays();
        fault();
        of();
        cell();
        book();
        goes();
        wax();
        whose();
        could();
        told();
        seats();
        parishes();
        middle();
        candles();
        doors();
        lantern();
        bills();
        pairs();
        order();
        game();
        undo();
        image();
        look();
        askingChangesNothing();
        Due.finish();
    }

    /** Two voters, two marks, a line of each text, a heat, an hour and something that can be undone. */
    private static ThumbBallot busy() {
        ThumbBallot x = new ThumbBallot();
        x.voter(1, 1, 5, 9);
        x.voter(2, -1, 0, 3);
        Due.text(x, 0, "comes 400;");
        Due.text(x, 1, "voter 0 at 0 to 1;");
        Due.text(x, 2, "on 0 heat 2 at 0;");
        Due.text(x, 3, "voter 0 twin 1;");
        x.state(Due.ahead(0));
        x.hours(3);
        x.press(0, 4);
        x.hand(1, 1);
        return x;
    }

    private static void newObject() {
        Due.says("Promise 1: Bare wax");
        ThumbBallot x = new ThumbBallot();
        for (int cell = 0; cell < 144; cell++) {
            Due.is("cell", x.cell(cell / 12, cell % 12, 0), -1);
        }
        for (int what = 0; what <= 13; what++) {
            Due.is("look " + what, x.look(what), 0);
        }
        // one object's wax is not another's
        ThumbBallot y = busy();
        Due.is("y", y.look(1), 2);
        Due.is("x", x.look(1), 0);
        Due.is("x", new ThumbBallot().look(0), 0);
    }

    private static void state() {
        Due.says("Promise 2: STATE is told: what it was");
        ThumbBallot x = new ThumbBallot();
        int[] states = {0, 1, -1, LEAST, MOST, 0};
        int was = 0;
        for (int s : states) {
            Due.is("state", x.state(s), was);
            Due.is("look(8)", x.look(8), s);
            was = s;
        }
    }

    private static void voter() {
        Due.says("Promise 3: NONE if one can't be");
        int[][] no = {{-1, 0, 0, 0}, {256, 0, 0, 0}, {LEAST, 0, 0, 0}, {MOST, 0, 0, 0}, {0, -2, 0, 0}, {0, 2, 0, 0},
            {0, LEAST, 0, 0}, {0, MOST, 0, 0}, {0, 0, -1, 0}, {0, 0, 12, 0}, {0, 0, LEAST, 0}, {0, 0, MOST, 0},
            {0, 0, 0, -1}, {0, 0, 0, 10}, {0, 0, 0, LEAST}, {0, 0, 0, MOST}};
        ThumbBallot x = busy();
        int[] was = Due.seen(x);
        for (int[] n : no) {
            Due.is("voter", x.voter(n[0], n[1], n[2], n[3]), -1);
        }
        Due.same("voter", Due.seen(x), was);
        Due.is("the next", x.voter(255, -1, 11, 9), 2);
        Due.is("the next", x.voter(0, 0, 0, 0), 3);
    }

    private static void voterTwenty() {
        Due.says("Promise 3: NONE if there are twenty");
        ThumbBallot x = new ThumbBallot();
        for (int i = 0; i < 20; i++) {
            Due.is("the number", x.voter(i, 1, 0, 0), i);
        }
        Due.is("the 21st", x.voter(77, 1, 0, 0), -1);
        Due.is("VOTERS", x.look(0), 20);
        Due.is("the last is as it was", x.of(19, 0), 19);
        Due.is("no 21st", x.of(20, 0), -2);
    }

    private static void set() {
        Due.says("Promise 4: false if one can't be, or another what");
        int[][] no = {{0, 0, -1}, {0, 0, 256}, {0, 2, 0}, {0, -1, 0}, {1, 0, -2}, {1, 0, 2}, {1, 2, 0}, {1, -1, 0},
            {2, 0, -1}, {2, 0, 12}, {2, 2, 0}, {2, -1, 0}, {3, 0, -1}, {3, 0, 10}, {3, 2, 0}, {3, -1, 0},
            {4, 0, -1}, {4, 0, 10}, {5, 0, 0}, {6, 0, 0}, {-1, 0, 0}, {LEAST, 0, 0}, {MOST, 0, 0}, {0, LEAST, 0},
            {0, MOST, 0}, {0, 0, MOST}, {4, 0, LEAST}};
        ThumbBallot x = busy();
        int[] was = Due.seen(x);
        for (int[] n : no) {
            Due.no("set " + n[0] + " " + n[1] + " " + n[2], x.set(n[0], n[1], n[2]));
        }
        Due.same("set", Due.seen(x), was);
        Due.says("Promise 4: 4 HEAT (who not asked): true");
        int[] who = {-1, 0, 2, 20, LEAST, MOST};
        for (int i = 0; i < who.length; i++) {
            Due.yes("set 4 of " + who[i], x.set(4, who[i], 3 + i));
            Due.is("HEAT", x.look(2), 3 + i);
        }
        ThumbBallot y = new ThumbBallot();
        Due.yes("without VOTERS", y.set(4, 0, 9));
        Due.no("without VOTERS", y.set(0, 0, 0));
    }

    private static void press() {
        Due.says("Promise 5: NONE if it can't be");
        ThumbBallot x = busy();
        x.voter(0, 0, 3, 3);
        x.press(0, 9);
        int[][] no = {{-1, 0}, {3, 0}, {20, 0}, {LEAST, 0}, {MOST, 0}, {0, -1}, {0, 12}, {0, LEAST}, {0, MOST},
            {1, 0}, {2, 0}};
        int[] was = Due.seen(x);
        for (int[] n : no) {
            Due.is("press " + n[0] + " " + n[1], x.press(n[0], n[1]), -1);
        }
        Due.same("press", Due.seen(x), was);
        Due.is("12 times row and column", x.press(0, 9), 21);
    }

    private static void lift() {
        Due.says("Promise 6: false if there is no MARK, no such CELL");
        ThumbBallot x = busy();
        int[][] no = {{0, 3}, {0, 5}, {1, 4}, {11, 11}, {-1, 4}, {12, 4}, {0, -1}, {0, 12}, {1, -8}, {-1, 16}, {LEAST, 4},
            {MOST, 4}, {0, LEAST}, {0, MOST}};
        int[] was = Due.seen(x);
        for (int[] n : no) {
            Due.no("lift " + n[0] + " " + n[1], x.lift(n[0], n[1]));
        }
        Due.same("lift", Due.seen(x), was);
        Due.yes("lift", x.lift(0, 4));
        Due.no("again", x.lift(0, 4));
    }

    private static void hand() {
        Due.says("Promise 7: false if it is so, or one can't be");
        ThumbBallot x = busy();
        int[][] no = {{0, 0}, {1, 1}, {0, -1}, {0, 3}, {1, -1}, {1, 3}, {-1, 1}, {2, 1}, {20, 1}, {LEAST, 1}, {MOST, 1},
            {0, LEAST}, {0, MOST}};
        int[] was = Due.seen(x);
        for (int[] n : no) {
            Due.no("hand " + n[0] + " " + n[1], x.hand(n[0], n[1]));
        }
        Due.same("hand", Due.seen(x), was);
        int[] order = {2, 1, 0, 2, 0, 1};
        for (int v : order) {
            Due.yes("hand " + v, x.hand(0, v));
            Due.is("HAND", x.of(0, 4), v);
            Due.no("it is so", x.hand(0, v));
        }
    }

    private static void hours() {
        Due.says("Promise 8: NONE, and nothing is done, if one can't be");
        ThumbBallot x = busy();
        int[] was = Due.seen(x);
        int[] no = {0, -1, 61, 62, LEAST, MOST, MOST - 5};
        for (int n : no) {
            Due.is("hours " + n, x.hours(n), -1);
        }
        Due.same("hours", Due.seen(x), was);
        Due.says("Promise 8: HOURS go by (1 .. 60): how many MARKS were left");
        ThumbBallot y = new ThumbBallot();
        y.voter(0, 1, 0, 0);
        Due.text(y, 0, "comes 1000;melts 1000;");
        Due.text(y, 1, "voter 0 at 0 to 0;voter 0 at 0 to 0;voter 0 at 7 to 0;");
        Due.is("1", y.hours(1), 2);
        Due.is("HOUR", y.look(3), 1);
        Due.is("6", y.hours(6), 0);
        Due.is("60", y.hours(60), 15);
        Due.is("DAY", y.look(4), 5);
        Due.is("HOUR", y.look(3), 7);
    }

    /** Only far behind an object's 512 calls can DAY be so late: nothing is promised there, but it holds. */
    private static void hoursToTheLastDay() {
        Due.says("Promise 8: NONE, and nothing is done, if DAY (and HOUR and n by 12) would be above 9990");
        ThumbBallot x = new ThumbBallot();
        for (int i = 0; i < 1997; i++) {
            x.hours(60);
        }
        x.hours(1);
        Due.is("DAY", x.look(4), 9985);
        Due.is("60 more", x.hours(60), 0);
        Due.is("DAY", x.look(4), 9990);
        Due.is("11 would be DAY 9991", x.hours(11), -1);
        Due.is("60", x.hours(60), -1);
        Due.is("HOUR", x.look(3), 1);
        Due.is("10", x.hours(10), 0);
        Due.is("HOUR", x.look(3), 11);
        Due.is("1 would be DAY 9991", x.hours(1), -1);
        Due.is("nothing is done", x.look(3), 11);
        Due.is("DAY", x.look(4), 9990);
    }

    private static void feed() {
        Due.says("Promise 9: Twenty bytes come behind the TAPE, of each number the highest first: how many it has");
        ThumbBallot x = new ThumbBallot();
        x.voter(0, 1, 0, 0);
        // "come" "s 12" "3-10" "0+0;" and blanks, by their numbers
        Due.is("feed", x.feed(0x636f6d65, 0x73203132, 0x332d3130, 0x302b303b, 0x20202020), 20);
        Due.is("text", x.text(0), 1);
        Due.is("comes", x.of(0, 6), 23);
        // behind what is there: a word cut in two
        Due.is("feed", x.feed(0x20202020, 0x20202020, 0x20202020, 0x20202020, 0x2020636f), 20);
        Due.is("feed", x.feed(0x6d657320, 0x373b2020, 0x20202020, 0x20202020, 0x20202020), 40);
        Due.is("text", x.text(0), 1);
        Due.is("comes", x.of(0, 6), 7);
        Due.is("empty then", x.feed(0, 0, 0, 0, 0), 20);
        Due.yes("end", x.end(3));
        Due.is("behind three", x.feed(-1, -1, -1, -1, -1), 23);
    }

    private static void feedFourHundred() {
        Due.says("Promise 9: NONE, and nothing comes, if there would be more than 400");
        int blank = 0x20202020;
        ThumbBallot x = new ThumbBallot();
        x.voter(0, 1, 0, 0);
        for (int i = 1; i <= 20; i++) {
            Due.is("feed", x.feed(blank, blank, blank, blank, blank), 20 * i);
        }
        Due.is("420", x.feed(-1, -1, -1, -1, -1), -1);
        Due.no("not more than 400", x.end(401));
        Due.is("none of it came", x.text(0), 0);
        for (int i = 1; i <= 20; i++) {
            x.feed(blank, blank, blank, blank, blank);
        }
        Due.yes("end 399", x.end(399));
        Due.is("419", x.feed(-1, -1, -1, -1, -1), -1);
        Due.yes("end 381", x.end(381));
        Due.is("401", x.feed(-1, -1, -1, -1, -1), -1);
        Due.no("it has 381", x.end(382));
        Due.yes("end 380", x.end(380));
        Due.is("400", x.feed(blank, blank, blank, blank, 0x20202021), 400);
        Due.is("the last byte is there", x.text(0), -1);
        Due.is("its place", x.fault(1), 399);
    }

    private static void end() {
        Due.says("Promise 10: false, changing nothing, if it has not so many, or n is below 0");
        ThumbBallot x = new ThumbBallot();
        x.voter(0, 1, 0, 0);
        Due.no("1 of none", x.end(1));
        Due.yes("0 of none", x.end(0));
        Due.feed(x, "comes 123;");
        int[] no = {-1, 11, 20, 401, LEAST, MOST};
        for (int n : no) {
            Due.no("end " + n, x.end(n));
        }
        Due.yes("all that it has", x.end(10));
        Due.is("text", x.text(0), 1);
        Due.is("comes", x.of(0, 6), 123);
        Due.says("Promise 10: The TAPE has its first n bytes alone");
        Due.feed(x, "comes 45;melts 6;");
        Due.yes("9", x.end(9));
        Due.no("what was cut does not come back", x.end(10));
        Due.is("text", x.text(0), 1);
        Due.feed(x, "comes 45;melts 6;");
        Due.yes("0", x.end(0));
        Due.is("text", x.text(0), 0);
        // what stood behind the cut is not read: a word, a number, a line cut in two
        String[] texts = {"comesmelts 1;", "comes 12345;", "comes 1;melts 2;", "comes 1;;"};
        int[] cuts = {5, 9, 13, 8};
        for (int i = 0; i < texts.length; i++) {
            ThumbBallot y = new ThumbBallot();
            y.voter(0, 1, 0, 0);
            Due.feed(y, texts[i]);
            Due.yes("cut", y.end(cuts[i]));
            Due.is("text " + texts[i], y.text(0), i == 3 ? 1 : -1);
            Due.is("fault(0) of " + texts[i], y.fault(0), i == 3 ? 0 : 1);
            Due.is("fault(1) of " + texts[i], y.fault(1), i == 3 ? -1 : cuts[i]);
            // nor what an earlier text had there
            Due.faulty(y, 0, texts[i].substring(0, 5), 1, 5);
        }
    }

    private static void text() {
        Due.says("Promise 11: NONE: no such one (fault() tells 0)");
        int[] no = {-1, 4, 5, LEAST, MOST};
        for (int k : no) {
            ThumbBallot x = busy();
            Due.feed(x, "comes");
            x.text(0);
            Due.is("a FAULT", x.fault(0), 1);
            int[] was = Due.seen(x);
            Due.is("text " + k, x.text(k), -1);
            Due.is("fault(0)", x.fault(0), 0);
            Due.is("fault(1)", x.fault(1), -1);
            Due.feed(x, "comes 5;");
            Due.is("text " + k, x.text(k), -1);
            Due.is("fault(0)", x.fault(0), 0);
            Due.same("text " + k, Due.seen(x), was);
        }
        Due.says("Promise 11: The TAPE, empty then, is TEXT k: how many lines");
        String[] texts = {"comes 1;melts 2;weighs 3;", "voter 1 at 2 to 3;", "on 1 heat 2 at 3;on 2 mind 0 for;", ""};
        int[] lines = {3, 1, 2, 0};
        ThumbBallot y = busy();
        for (int k = 0; k < 4; k++) {
            Due.reads(y, k, texts[k], lines[k]);
            Due.is("lines", y.look(9 + k), lines[k]);
            Due.no("empty then", y.end(1));
        }
    }

    private static void textStays() {
        Due.says("Promise 11: or a FAULT (it stays as it was)");
        String[] texts = {"comes 1;melts 2;weighs 1/0;", "voter 1 at 2 to 3;voter 1 at 2 to 12;",
            "on 1 heat 2 at 3;on 0 mind 2 for;", "voter 1 twin 0;voter 1 twin 1;"};
        for (int k = 0; k < 4; k++) {
            ThumbBallot x = busy();
            int[] was = Due.seen(x);
            int came = x.goes(60, 3);
            Due.is("text " + k, Due.text(x, k, texts[k]), -1);
            Due.no("the TAPE is empty then, too", x.end(1));
            Due.is("a FAULT", x.fault(0), 2);
            Due.same("text " + k, Due.seen(x), was);
            Due.is("hours as they were", x.goes(60, 3), came);
        }
    }

    private static void fault() {
        Due.says("Promise 12: Of the latest text() what 0 the FAULT (0 without one), 1 its place (NONE)");
        ThumbBallot x = new ThumbBallot();
        Due.is("before any", x.fault(0), 0);
        Due.is("before any", x.fault(1), -1);
        Due.faulty(x, 0, "comes 1/0;", 2, 8);
        Due.is("again", x.fault(0), 2);
        x.hours(3);
        x.feed(0, 0, 0, 0, 0);
        Due.is("other calls leave it", x.fault(1), 8);
        x.end(0);
        x.text(0);
        Due.is("without one", x.fault(0), 0);
        Due.is("without one", x.fault(1), -1);
        Due.faulty(x, 0, "?", 1, 0);
        Due.says("Promise 12: NONE for another what");
        int[] no = {-1, 2, 3, LEAST, MOST};
        for (int what : no) {
            Due.is("fault " + what, x.fault(what), -1);
        }
    }

    private static void of() {
        Due.says("Promise 13: NONE - 1 if there is none such, or another what");
        ThumbBallot x = busy();
        int[] voters = {-1, 2, 19, 20, LEAST, MOST};
        int[] whats = {-1, 8, 9, LEAST, MOST};
        for (int v : voters) {
            for (int what = 0; what <= 7; what++) {
                Due.is("of " + v, x.of(v, what), -2);
            }
        }
        for (int what : whats) {
            Due.is("what " + what, x.of(0, what), -2);
            Due.is("what " + what, x.of(-1, what), -2);
        }
        int[][] due = {{1, 1, 5, 9, 0, 2, 400, 2}, {2, -1, 0, 3, 1, 0, 400, 1}};
        for (int v = 0; v < 2; v++) {
            for (int what = 0; what <= 7; what++) {
                Due.is("of " + v + " " + what, x.of(v, what), due[v][what]);
            }
        }
    }

    private static void cell() {
        Due.says("Promise 14: NONE - 1 if there is none such, or another what");
        ThumbBallot x = busy();
        int[][] no = {{-1, 0}, {12, 0}, {0, -1}, {0, 12}, {-1, 16}, {LEAST, 0}, {MOST, 0}, {0, LEAST}, {0, MOST}};
        for (int[] n : no) {
            for (int what = 0; what <= 4; what++) {
                Due.is("cell " + n[0] + " " + n[1], x.cell(n[0], n[1], what), -2);
            }
        }
        int[] whats = {-1, 5, 6, LEAST, MOST};
        for (int what : whats) {
            Due.is("what " + what, x.cell(0, 4, what), -2);
            Due.is("what " + what, x.cell(11, 11, what), -2);
        }
        Due.says("Promise 14: (NONE: none), (none: 0), (0), (no MARK: NONE)");
        int[] bare = {-1, 0, 0, -1, -1};
        int[] mark = {0, 1, 5, 0, 5};
        for (int what = 0; what <= 4; what++) {
            Due.is("bare " + what, x.cell(11, 11, what), bare[what]);
            Due.is("MARK " + what, x.cell(0, 4, what), mark[what]);
        }
    }

    private static void book() {
        Due.says("Promise 15: NONE - 9999 if there is none such, or another what");
        ThumbBallot x = new ThumbBallot();
        Due.is("no line", x.book(0, 0), -10000);
        x.voter(0, 1, 0, 0);
        x.press(0, 3);
        int[] lines = {-1, 1, 149, 150, 151, LEAST, MOST};
        for (int i : lines) {
            for (int what = 0; what <= 4; what++) {
                Due.is("book " + i, x.book(i, what), -10000);
            }
        }
        int[] whats = {-1, 5, 6, LEAST, MOST};
        for (int what : whats) {
            Due.is("what " + what, x.book(0, what), -10000);
        }
        Due.is("line 0", x.book(0, 4), 3);
        x.undo();
        Due.is("undone", x.book(0, 4), -10000);
    }

    private static void goes() {
        Due.says("Promise 16: NONE - 99999 if one can't be, or another what");
        ThumbBallot x = busy();
        int[] no = {0, -1, 61, LEAST, MOST};
        for (int n : no) {
            for (int what = 0; what <= 3; what++) {
                Due.is("goes " + n, x.goes(n, what), -100000);
            }
        }
        int[] whats = {-1, 4, 5, LEAST, MOST};
        for (int what : whats) {
            Due.is("what " + what, x.goes(1, what), -100000);
            Due.is("what " + what, x.goes(60, what), -100000);
        }
    }

    private static void wax() {
        Due.says("Promise 17: NONE - 99999 for another what");
        int[] whats = {-1, 10, 11, LEAST, MOST};
        ThumbBallot x = busy();
        for (int what : whats) {
            Due.is("wax " + what, x.wax(what), -100000);
        }
        int[] due = {5, 0, 1, 1, 0, 0, 1, 11, 1, 0};
        x.lift(0, 1);
        for (int what = 0; what <= 9; what++) {
            Due.is("wax " + what, x.wax(what), due[what]);
        }
    }

    private static void whose() {
        Due.says("Promise 18: WHOSE, as a set; the nearest (d NONE). NONE if one can't be");
        ThumbBallot x = busy();
        int[][] no = {{-1, 0}, {256, 0}, {-1, -1}, {256, -1}, {0, -2}, {0, 9}, {LEAST, 0}, {MOST, 0}, {0, LEAST}, {0, MOST}};
        for (int[] n : no) {
            Due.is("whose " + n[0] + " " + n[1], x.whose(n[0], n[1]), -1);
        }
        Due.is("a set", x.whose(0, 1), 3);
        Due.is("the nearest", x.whose(2, -1), 1);
        Due.is("255", x.whose(255, 8), 3);
        Due.is("255", x.whose(255, 6), 0);
        Due.is("255", x.whose(255, 7), 3);
    }

    private static void could() {
        Due.says("Promise 19: COULD; NONE if there is none such");
        ThumbBallot x = busy();
        int[] no = {-1, 2, 20, LEAST, MOST};
        for (int v : no) {
            Due.is("could " + v, x.could(v), -1);
        }
        Due.is("could 0", x.could(0), 3);
        Due.is("none at all", new ThumbBallot().could(0), -1);
    }

    /** Some tells of one kind: the least and the most that can be, and how many there may be. */
    private static void list(String what, IntUnaryOperator tell, int least, int most, int room) {
        Due.says(what + " (NONE: none is then): how many; NONE if one can't be, or there are " + room);
        Due.is("none is then", tell.applyAsInt(-1), 0);
        int[] no = {least - 1 == -1 ? -2 : least - 1, most + 1, -2, LEAST, MOST};
        for (int v : no) {
            Due.is("tells " + v, tell.applyAsInt(v), -1);
        }
        for (int i = 1; i <= room; i++) {
            Due.is("how many", tell.applyAsInt(i % 2 == 0 ? least : most), i);
            Due.is("one can't be", tell.applyAsInt(most + 1), -1);
        }
        Due.is("one more than " + room, tell.applyAsInt(least), -1);
        Due.is("one more than " + room, tell.applyAsInt(most), -1);
        Due.is("one that can't be", tell.applyAsInt(most + 1), -1);
        Due.is("none is then", tell.applyAsInt(-1), 0);
        Due.is("none is then, again", tell.applyAsInt(-1), 0);
        Due.is("one", tell.applyAsInt(least), 1);
    }

    private static void told() {
        ThumbBallot x = new ThumbBallot();
        list("Promise 20: A party's votes", x::party, 0, 999, 6);
        list("Promise 22: A house", x::house, 0, 1, 16);
        list("Promise 24: A wish", x::wish, 0, 99, 15);
        list("Promise 25: A name", x::name, 0, 9, 15);
        list("Promise 27: A candle end", x::candle, 1, 50, 8);
        list("Promise 31: A height", x::stands, 0, 30, 12);
        // each has its own row: the one that is told last is there, and no other
        Due.is("party", x.party(-1), 0);
        Due.is("house stays", x.house(1), 2);
        Due.is("name", x.name(-1), 0);
        Due.is("wish stays", x.wish(1), 2);
        Due.is("candle", x.candle(-1), 0);
        Due.is("height stays", x.stands(1), 2);
    }

    private static void seats() {
        Due.says("Promise 21: SEATS of party i. NONE if one can't be");
        ThumbBallot x = new ThumbBallot();
        Due.is("no party", x.seats(1, 0, 0), -1);
        x.party(5);
        x.party(4);
        int[][] no = {{0, 0, 0}, {-1, 0, 0}, {41, 0, 0}, {LEAST, 0, 0}, {MOST, 0, 0}, {1, -1, 0}, {1, 2, 0}, {1, LEAST, 0},
            {1, MOST, 0}, {1, 0, -1}, {1, 0, 2}, {1, 0, 6}, {1, 0, LEAST}, {1, 0, MOST}};
        for (int[] n : no) {
            Due.is("seats " + n[0] + " " + n[1] + " " + n[2], x.seats(n[0], n[1], n[2]), -1);
        }
        Due.is("1", x.seats(1, 0, 0), 1);
        Due.is("40", x.seats(40, 1, 1), 2);
    }

    private static void parishes() {
        Due.says("Promise 23: NONE if k can't be (more than houses), or another what");
        ThumbBallot x = new ThumbBallot();
        for (int houses = 0; houses <= 16; houses++) {
            for (int k = 0; k <= 9; k++) {
                boolean can = k >= 1 && k <= 8 && k <= houses;
                Due.is(k + " of " + houses, x.parishes(k, 0), can ? k : -1);
                Due.is(k + " of " + houses, x.parishes(k, 1), can ? k : -1);
            }
            x.house(1);
        }
        int[] no = {-1, LEAST, MOST};
        for (int n : no) {
            Due.is("k", x.parishes(n, 0), -1);
            Due.is("what", x.parishes(1, n), -1);
        }
        Due.is("what", x.parishes(1, 2), -1);
    }

    private static void middle() {
        Due.says("Promise 26: 1 FAR (none told: 0). NONE for another what");
        ThumbBallot x = new ThumbBallot();
        int[] none = {-1, 0, -1, 0};
        for (int what = 0; what <= 3; what++) {
            Due.is("none told " + what, x.middle(what), none[what]);
        }
        x.wish(0);
        x.name(0);
        int[] one = {0, 0, 0, 1};
        for (int what = 0; what <= 3; what++) {
            Due.is("one told " + what, x.middle(what), one[what]);
        }
        int[] no = {-1, 4, LEAST, MOST};
        for (int what : no) {
            Due.is("what " + what, x.middle(what), -1);
        }
    }

    private static void candles() {
        Due.says("Promise 28: NONE if n can't be, or another what");
        ThumbBallot x = new ThumbBallot();
        x.candle(1);
        int[] no = {-1, 401, LEAST, MOST};
        for (int n : no) {
            Due.is("n " + n, x.candles(n, 0), -1);
            Due.is("n " + n, x.candles(n, 1), -1);
        }
        int[] whats = {-1, 2, LEAST, MOST};
        for (int what : whats) {
            Due.is("what " + what, x.candles(5, what), -1);
        }
        Due.is("0", x.candles(0, 0), 1);
        Due.is("0", x.candles(0, 1), 0);
        Due.is("400", x.candles(400, 0), 2);
        Due.is("400", x.candles(400, 1), 1);
    }

    private static void doors() {
        Due.says("Promise 29: A door (weight NONE: none is then): NONE if one can't be, or there are eight");
        ThumbBallot x = new ThumbBallot();
        int[][] no = {{0, 0}, {-2, 0}, {51, 0}, {LEAST, 0}, {MOST, 0}, {1, -1}, {1, 201}, {1, LEAST}, {1, MOST}, {50, -1},
            {50, 201}};
        for (int i = 1; i <= 8; i++) {
            for (int[] n : no) {
                Due.is("door " + n[0] + " " + n[1], x.door(n[0], n[1]), -1);
            }
            Due.is("how many", x.door(i % 2 == 0 ? 1 : 50, i % 2 == 0 ? 0 : 200), i);
        }
        Due.is("the ninth", x.door(1, 200), -1);
        Due.says("Promise 30: STACK");
        Due.is("four that bear, one above", x.stack(), 5);
        int[] bears = {0, -1, 201, LEAST, MOST};
        for (int b : bears) {
            x.door(5, 5);
            Due.is("none is then, bears is not asked", x.door(-1, b), 0);
            Due.is("none", x.stack(), 0);
        }
    }

    private static void lantern() {
        Due.says("Promise 32: 1 the last (NONE). NONE if h can't be, or another what");
        ThumbBallot x = new ThumbBallot();
        Due.is("none told", x.lantern(0, 0), 0);
        Due.is("none told", x.lantern(0, 1), -1);
        x.stands(3);
        int[] no = {-1, 41, LEAST, MOST};
        for (int h : no) {
            Due.is("h " + h, x.lantern(h, 0), -1);
            Due.is("h " + h, x.lantern(h, 1), -1);
        }
        int[] whats = {-1, 2, LEAST, MOST};
        for (int what : whats) {
            Due.is("what " + what, x.lantern(5, what), -1);
        }
        Due.is("40", x.lantern(40, 0), 1);
        Due.is("40", x.lantern(40, 1), 0);
    }

    private static void bills() {
        Due.says("Promise 34: NONE for another what");
        ThumbBallot x = new ThumbBallot();
        int[] no = {-1, 3, LEAST, MOST};
        for (int what : no) {
            Due.is("bills " + what, x.bills(what), -1);
        }
        Due.is("none told", x.bills(0), 8);
        Due.is("none told", x.bills(1), 255);
        Due.is("none told", x.bills(2), 256);
    }

    private static int pair(ThumbBallot x, boolean bill, int a, int b) {
        return bill ? x.bill(a, b) : x.before(a, b);
    }

    private static void pairs() {
        int[][] no = {{8, 0}, {0, 8}, {-2, 0}, {0, -1}, {0, -2}, {LEAST, 0}, {MOST, 0}, {0, LEAST}, {0, MOST}, {8, 8}};
        for (int kind = 0; kind < 2; kind++) {
            boolean bill = kind == 0;
            Due.says(bill ? "Promise 33: NONE if one can't be (alike), or there are twelve"
                    : "Promise 35: NONE if one can't be (alike), or there are twelve");
            ThumbBallot x = new ThumbBallot();
            for (int[] n : no) {
                Due.is("can't be " + n[0] + " " + n[1], pair(x, bill, n[0], n[1]), -1);
            }
            for (int a = 0; a < 8; a++) {
                Due.is("alike", pair(x, bill, a, a), -1);
            }
            for (int i = 1; i <= 12; i++) {
                Due.is("how many", pair(x, bill, i % 2 == 0 ? 0 : 7, i % 2 == 0 ? 1 : 6), i);
            }
            Due.is("the 13th", pair(x, bill, 2, 3), -1);
            int[] others = {0, -1, 8, LEAST, MOST};
            for (int b : others) {
                Due.is("none is then, b is not asked", pair(x, bill, -1, b), 0);
                Due.is("one", pair(x, bill, 7, 0), 1);
            }
            Due.is("what the other row has", bill ? x.order() : x.bills(0), bill ? 40320 : 8);
        }
    }

    private static void order() {
        Due.says("Promise 36: ORDER");
        ThumbBallot x = new ThumbBallot();
        Due.is("none told", x.order(), 40320);
        x.before(3, 3);
        Due.is("what can't be is not told", x.order(), 40320);
        x.before(3, 4);
        Due.is("one", x.order(), 20160);
        x.before(-1, 0);
        Due.is("none again", x.order(), 40320);
    }

    private static void game() {
        Due.says("Promise 37: NONE - 9 if one can't be, or another what");
        ThumbBallot x = new ThumbBallot();
        int[] whats = {-1, 2, LEAST, MOST};
        for (int what : whats) {
            Due.is("what " + what, x.game(0, what), -10);
        }
        int[] no = {-1, LEAST, MOST, 1000000000, 222222222, 111111111, 2, 4};
        for (int cells : no) {
            Due.is("cells " + cells, x.game(cells, 0), -10);
            Due.is("cells " + cells, x.game(cells, 1), -10);
        }
        Due.says("Promise 37: nine digits (cell 0 the highest)");
        Due.is("up 0 1, down 3 4: 2", x.game(110220000, 1), 2);
        // with 5 up has two ways to win at once
        Due.is("up 7 8, down 3 4: 5", x.game(220011, 1), 5);
    }

    private static void undo() {
        Due.says("Promise 38: UNDO: true; false if there is nothing");
        ThumbBallot x = new ThumbBallot();
        Due.no("nothing", x.undo());
        x.voter(0, 1, 0, 0);
        Due.no("a VOTER is not undone", x.undo());
        x.press(0, 0);
        Due.yes("PRESS", x.undo());
        Due.no("nothing more", x.undo());
        Due.is("the VOTER is there", x.look(0), 1);
        int[] was = Due.seen(x);
        Due.no("nothing", x.undo());
        Due.same("undo", Due.seen(x), was);
    }

    private static void image() {
        Due.says("Promise 39: true; false if there is none");
        ThumbBallot x = busy();
        int[] was = Due.seen(x);
        Due.no("none", x.image(false));
        Due.same("image(false)", Due.seen(x), was);
        Due.yes("taken", x.image(true));
        Due.same("image(true)", Due.seen(x), was);
        Due.yes("taken again", x.image(true));
        Due.yes("gone back", x.image(false));
        Due.yes("gone back again", x.image(false));
    }

    private static void look() {
        Due.says("Promise 40: NONE for another what. (STATE as it is.)");
        ThumbBallot x = busy();
        int[] no = {-1, 14, 15, LEAST, MOST};
        for (int what : no) {
            Due.is("look " + what, x.look(what), -1);
        }
        x.state(-1);
        Due.is("STATE -1", x.look(8), -1);
        x.state(LEAST);
        Due.is("STATE as it is", x.look(8), LEAST);
        int[] due = {2, 2, 2, 3, 0, 0, 0, 2, LEAST, 1, 1, 1, 1, 0};
        for (int what = 0; what <= 13; what++) {
            Due.is("look " + what, x.look(what), due[what]);
        }
    }

    private static void askingChangesNothing() {
        Due.says("IN THOUGHT (nothing of it stays): asking changes nothing");
        ThumbBallot x = busy();
        x.party(9);
        x.house(1);
        x.stands(4);
        int[] was = Due.seen(x);
        for (int i = -1; i <= 3; i++) {
            x.of(i, 6);
            x.cell(0, i, 3);
            x.cell(0, i, 4);
            x.book(i, 0);
            x.goes(20 * i, 2);
            x.whose(i, i);
            x.could(i);
            x.seats(10, 0, i);
            x.parishes(i, 0);
            x.middle(i);
            x.candles(i, 0);
            x.stack();
            x.lantern(i, 0);
            x.bills(i);
            x.order();
            x.game(i, 1);
            x.look(i);
            x.fault(i);
        }
        Due.same("asking", Due.seen(x), was);
        Due.is("parties", x.party(1), 2);
        Due.is("houses", x.house(1), 2);
        Due.is("heights", x.stands(1), 2);
        Due.is("wishes", x.wish(1), 1);
        Due.is("the TAPE", x.feed(0, 0, 0, 0, 0), 20);
    }
}
