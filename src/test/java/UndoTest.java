/** Promises 38 to 40: what is undone, the image, and what is looked at. */
public final class UndoTest {
    public static void main(String[] args) {
        each();
        six();
        hours();
        forgets();
        keeps();
        image();
        imageTold();
        imageAndUndo();
        look();
        Due.finish();
    }

    private static ThumbBallot two() {
        ThumbBallot x = new ThumbBallot();
        x.voter(1, 1, 1, 4);
        x.voter(2, -1, 0, 2);
        return x;
    }

    private static void each() {
        ThumbBallot x = two();
        Due.no("nothing", x.undo());
        x.press(0, 0);
        x.press(1, 0);
        x.lift(0, 0);
        x.hand(1, 2);
        Due.is("kept", x.look(13), 4);
        Due.yes("hand", x.undo());
        Due.is("hand", x.of(1, 4), 0);
        Due.is("bare yet", x.cell(0, 0, 0), -1);
        Due.yes("lift", x.undo());
        Due.is("there again", x.cell(0, 0, 0), 1);
        Due.is("book", x.look(7), 2);
        Due.yes("press over", x.undo());
        Due.is("the first again", x.cell(0, 0, 0), 0);
        Due.is("depth", x.cell(0, 0, 2), 3);
        Due.is("came", x.of(1, 5), 0);
        Due.is("book", x.look(7), 1);
        Due.is("kept", x.look(13), 1);
        Due.yes("press", x.undo());
        Due.is("bare", x.look(1), 0);
        Due.is("came", x.of(0, 5), 0);
        Due.no("nothing", x.undo());
        Due.is("no line", x.book(0, 0), -10000);
    }

    private static void six() {
        ThumbBallot x = two();
        for (int i = 0; i < 9; i++) {
            x.press(0, i);
            Due.is("kept", x.look(13), Math.min(i + 1, 6));
        }
        for (int i = 0; i < 6; i++) {
            Due.yes("undo", x.undo());
            Due.is("marks", x.look(1), 8 - i);
        }
        Due.no("no more", x.undo());
        Due.is("marks", x.look(1), 3);
        x.press(0, 9);
        x.press(0, 10);
        Due.yes("undo", x.undo());
        x.press(0, 11);
        Due.is("book", x.book(4, 4), 11);
        Due.yes("undo", x.undo());
        Due.yes("undo", x.undo());
        Due.no("no more", x.undo());
        Due.is("marks", x.look(1), 3);
    }

    private static void hours() {
        ThumbBallot x = two();
        Due.reads(x, 1, "voter 0 at 0 to 1;voter 1 at 1 to 2;voter 0 at 11 to 3;", 3);
        Due.reads(x, 2, "on 0 heat 6 at 2;on 1 mind 0 none;", 2);
        x.state(4711);
        Due.is("kept", x.look(13), 0);
        int[][] was = new int[15][];
        for (int i = 0; i < 14; i++) {
            was[i] = all(x);
            x.hours(1);
        }
        for (int i = 13; i >= 8; i--) {
            Due.yes("undo", x.undo());
            int[] is = all(x);
            for (int k = 0; k < is.length; k++) {
                Due.is("hour " + i + ", " + k, is[k], was[i][k]);
            }
        }
        Due.no("no more", x.undo());
        // a long call is undone hour by hour, as short ones are
        ThumbBallot y = two();
        Due.reads(y, 1, "voter 0 at 0 to 1;voter 1 at 1 to 2;voter 0 at 11 to 3;", 3);
        Due.reads(y, 2, "on 0 heat 6 at 2;on 1 mind 0 none;", 2);
        y.state(4711);
        y.hours(14);
        Due.is("kept", y.look(13), 6);
        for (int i = 13; i >= 8; i--) {
            Due.yes("undo", y.undo());
            Due.is("hour", y.look(3), i < 12 ? i : i - 12);
            Due.is("state", y.look(8), was[i][0]);
            Due.is("marks", y.look(1), was[i][1]);
        }
        Due.no("no more", y.undo());
        y.hours(2);
        Due.is("kept", y.look(13), 2);
    }

    private static int[] all(ThumbBallot x) {
        int[] all = {x.look(8), x.look(1), x.look(2), x.look(3), x.look(4), x.look(5), x.look(6), x.look(7),
            x.of(0, 1), x.of(0, 5), x.of(1, 5), x.cell(0, 1, 2), x.cell(0, 2, 2), x.cell(0, 3, 2), x.wax(0)};
        return all;
    }

    private static void kept(ThumbBallot x, String what, int due) {
        Due.is("after " + what, x.look(13), due);
        x.press(0, 5);
    }

    private static void forgets() {
        ThumbBallot x = two();
        x.press(0, 5);
        x.state(0);
        kept(x, "state", 0);
        x.voter(0, 0, 0, 0);
        kept(x, "voter", 0);
        for (int what = 0; what < 5; what++) {
            x.set(what, 0, 1);
            kept(x, "set", 0);
        }
        Due.text(x, 1, "");
        kept(x, "ways", 0);
        Due.text(x, 2, "");
        kept(x, "sky", 0);
        Due.no("no image yet", x.image(false));
        kept(x, "no image", 1);
        Due.yes("taken", x.image(true));
        kept(x, "the taking", 2);
        Due.yes("gone back", x.image(false));
        kept(x, "going back", 0);
    }

    private static void keeps() {
        ThumbBallot x = two();
        x.press(0, 5);
        x.press(9, 0);
        x.lift(11, 0);
        x.hand(0, 0);
        x.hours(0);
        x.voter(-1, 0, 0, 0);
        x.set(0, 5, 0);
        x.set(7, 0, 0);
        Due.text(x, 0, "comes 3;");
        Due.text(x, 3, "voter 0 twin 1;");
        Due.text(x, 1, "voter");
        Due.text(x, 2, "on");
        x.text(4);
        x.feed(1, 2, 3, 4, 5);
        x.end(0);
        x.party(1);
        x.house(1);
        x.wish(1);
        x.name(1);
        x.candle(1);
        x.door(1, 1);
        x.stands(1);
        x.bill(0, 1);
        x.before(0, 1);
        x.game(0, 0);
        x.goes(60, 0);
        x.party(-1);
        Due.is("kept", x.look(13), 1);
        Due.yes("undo", x.undo());
        Due.is("bare", x.look(1), 0);
        Due.is("the law is not undone", x.of(0, 6), 3);
        Due.is("nor twins", x.of(0, 7), 2);
        Due.is("nor houses", x.house(0), 2);
    }

    private static void image() {
        ThumbBallot x = two();
        Due.no("none", x.image(false));
        Due.text(x, 0, "comes 3;");
        Due.text(x, 1, "voter 0 at 5 to 1;");
        Due.text(x, 2, "on 0 heat 7 at 9;");
        Due.text(x, 3, "voter 0 twin 1;");
        x.state(55);
        x.hours(13);
        x.press(0, 7);
        x.hand(1, 1);
        x.set(4, 0, 3);
        Due.yes("taken", x.image(true));
        int[] was = looks(x);
        for (int round = 0; round < 2; round++) {
            x.voter(4, 0, 0, 0);
            x.set(0, 0, 200);
            x.hand(1, 0);
            x.lift(0, 7);
            Due.text(x, 0, "comes 4;comes 5;");
            Due.text(x, 1, "");
            Due.text(x, 2, "");
            Due.text(x, 3, "");
            x.hours(30);
            x.state(1);
            Due.feed(x, "comes 9;");
            Due.yes("gone back", x.image(false));
            int[] is = looks(x);
            for (int k = 0; k < is.length; k++) {
                Due.is("round " + round + ", look " + k, is[k], was[k]);
            }
            Due.is("the tape is not in it", x.text(0), 1);
            Due.is("nothing to undo", x.look(13), 0);
            Due.is("comes", x.of(0, 6), 9);
        }
        Due.text(x, 0, "?");
        Due.yes("gone back", x.image(false));
        Due.is("fault is not in it", x.fault(0), 1);
        Due.is("fault is not in it", x.fault(1), 0);
        Due.is("comes", x.of(0, 6), 3);
        x.press(0, 1);
        x.image(true);
        x.lift(0, 1);
        x.image(false);
        Due.is("the later image", x.cell(0, 1, 0), 0);
    }

    private static int[] looks(ThumbBallot x) {
        int[] all = new int[26];
        for (int i = 0; i < 13; i++) {
            all[i] = x.look(i);
        }
        for (int i = 0; i < 4; i++) {
            all[13 + i] = x.book(i, 2) * 1000 + x.book(i, 4);
        }
        int[] rest = {x.of(0, 0), x.of(1, 4), x.of(0, 5), x.of(0, 6), x.of(0, 7), x.cell(0, 7, 0), x.cell(0, 7, 1),
            x.cell(0, 7, 2), x.goes(7, 1)};
        System.arraycopy(rest, 0, all, 17, rest.length);
        return all;
    }

    private static void imageTold() {
        ThumbBallot x = new ThumbBallot();
        int[] due = new int[9];
        for (int round = 0; round < 2; round++) {
            x.party(round + 5);
            x.house(round);
            x.wish(round + 7);
            x.name(round + 3);
            x.candle(round + 2);
            x.door(1, 100);
            x.stands(round + 4);
            x.bill(0, round + 1);
            x.before(0, round + 1);
            if (round == 0) {
                due = thoughts(x);
                x.image(true);
            }
        }
        x.image(false);
        int[] is = thoughts(x);
        for (int i = 0; i < 9; i++) {
            Due.is("thought " + i, is[i], due[i]);
        }
        x.party(-1);
        x.image(false);
        Due.is("party", x.seats(40, 0, 0), 5);
        Due.is("party", x.party(1), 2);
    }

    private static int[] thoughts(ThumbBallot x) {
        return new int[] {x.seats(3, 0, 1), x.parishes(2, 0), x.middle(1), x.middle(2), x.candles(400, 0), x.stack(),
            x.lantern(40, 0), x.bills(2), x.order()};
    }

    /** The image has its own book: what is undone and written anew does not reach it. */
    private static void imageAndUndo() {
        ThumbBallot x = two();
        x.press(0, 1);
        x.press(0, 2);
        x.image(true);
        x.undo();
        x.undo();
        x.press(1, 8);
        x.press(1, 9);
        x.press(1, 10);
        x.image(false);
        Due.is("lines", x.look(7), 2);
        Due.is("book", x.book(0, 4), 1);
        Due.is("book", x.book(1, 4), 2);
        Due.is("who", x.book(1, 3), 0);
        Due.no("nothing", x.undo());
    }

    private static void look() {
        ThumbBallot x = two();
        Due.text(x, 0, "comes 0;melts 0;");
        Due.text(x, 1, "voter 0 at 0 to 0;voter 0 at 0 to 0;voter 0 at 0 to 0;");
        Due.text(x, 2, "on 0 heat 4 at 0;on 0 heat 4 at 1;on 0 heat 4 at 2;on 0 heat 4 at 3;");
        Due.text(x, 3, "voter 0 twin 1;");
        x.press(0, 0);
        x.hours(12);
        x.press(1, 0);
        x.hours(14);
        x.press(0, 3);
        int[] due = {2, 1, 4, 2, 2, 1, 1, 5, 0, 2, 3, 4, 1, 6};
        for (int what = 0; what < due.length; what++) {
            Due.is("look " + what, x.look(what), due[what]);
        }
        int[] no = {-1, 14, Integer.MIN_VALUE, Integer.MAX_VALUE};
        for (int what : no) {
            Due.is("look " + what, x.look(what), -1);
        }
    }
}
