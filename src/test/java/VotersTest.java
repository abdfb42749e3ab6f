/** Promises 1 to 4, 13, 18: a new object, state, voters and what is set of them, whose whorl it is. */
public final class VotersTest {
    public static void main(String[] args) {
        fresh();
        state();
        voter();
        set();
        of();
        whose();
        Due.finish();
    }

    private static void fresh() {
        ThumbBallot x = new ThumbBallot();
        for (int what = 0; what <= 13; what++) {
            Due.is("look " + what, x.look(what), 0);
        }
        Due.is("look -1", x.look(-1), -1);
        Due.is("look 14", x.look(14), -1);
        for (int row = 0; row < 12; row++) {
            for (int column = 0; column < 12; column++) {
                Due.is("cell", x.cell(row, column, 0), -1);
            }
        }
        Due.is("fault 0", x.fault(0), 0);
        Due.is("fault 1", x.fault(1), -1);
        Due.is("fault 2", x.fault(2), -1);
        Due.is("fault -1", x.fault(-1), -1);
    }

    private static void state() {
        ThumbBallot x = new ThumbBallot();
        Due.is("state", x.state(77), 0);
        Due.is("state", x.state(Integer.MIN_VALUE), 77);
        Due.is("look 8", x.look(8), Integer.MIN_VALUE);
        Due.is("state", x.state(-1), Integer.MIN_VALUE);
        Due.is("look 8", x.look(8), -1);
    }

    private static void voter() {
        ThumbBallot x = new ThumbBallot();
        int[][] bad = {{-1, 0, 0, 0}, {256, 0, 0, 0}, {0, -2, 0, 0}, {0, 2, 0, 0}, {0, 0, -1, 0},
            {0, 0, 12, 0}, {0, 0, 0, -1}, {0, 0, 0, 10}};
        for (int[] b : bad) {
            Due.is("bad voter", x.voter(b[0], b[1], b[2], b[3]), -1);
        }
        Due.is("look 0", x.look(0), 0);
        for (int i = 0; i < 20; i++) {
            Due.is("voter " + i, x.voter(255 - i, i % 3 - 1, i % 12, i % 10), i);
            Due.is("look 0", x.look(0), i + 1);
        }
        Due.is("the 21st", x.voter(0, 0, 0, 0), -1);
        Due.is("look 0", x.look(0), 20);
        for (int i = 0; i < 20; i++) {
            Due.is("whorl", x.of(i, 0), 255 - i);
            Due.is("mind", x.of(i, 1), i % 3 - 1);
            Due.is("height", x.of(i, 2), i % 12);
            Due.is("press", x.of(i, 3), i % 10);
            Due.is("hand", x.of(i, 4), 0);
            Due.is("came", x.of(i, 5), 0);
        }
    }

    private static void set() {
        ThumbBallot x = new ThumbBallot();
        x.voter(1, 1, 1, 1);
        x.voter(2, -1, 2, 2);
        int[] most = {255, 1, 11, 9};
        int[] least = {0, -1, 0, 0};
        for (int what = 0; what < 4; what++) {
            int other = x.of(0, what);
            Due.no("above", x.set(what, 1, most[what] + 1));
            Due.no("below", x.set(what, 1, least[what] - 1));
            Due.no("no voter", x.set(what, 2, 0));
            Due.no("no voter", x.set(what, -1, 0));
            Due.yes("most", x.set(what, 1, most[what]));
            Due.is("is", x.of(1, what), most[what]);
            Due.yes("least", x.set(what, 1, least[what]));
            Due.is("is", x.of(1, what), least[what]);
            Due.yes("again", x.set(what, 1, least[what]));
            Due.is("the other's", x.of(0, what), other);
        }
        Due.yes("heat", x.set(4, -77, 9));
        Due.is("heat", x.look(2), 9);
        Due.yes("heat", x.set(4, 0, 0));
        Due.is("heat", x.look(2), 0);
        Due.yes("heat", x.set(4, 20, 9));
        Due.no("heat", x.set(4, 0, 10));
        Due.no("heat", x.set(4, 0, -1));
        Due.is("heat", x.look(2), 9);
        Due.no("what", x.set(5, 0, 0));
        Due.no("what", x.set(-1, 0, 0));
    }

    private static void of() {
        ThumbBallot x = new ThumbBallot();
        Due.is("none", x.of(0, 0), -2);
        x.voter(9, -1, 3, 9);
        Due.is("none", x.of(1, 0), -2);
        Due.is("none", x.of(-1, 0), -2);
        Due.is("what", x.of(0, 8), -2);
        Due.is("what", x.of(0, -1), -2);
        Due.is("comes", x.of(0, 6), 950);
        Due.is("twins", x.of(0, 7), 0);
        x.hand(0, 2);
        Due.is("hand", x.of(0, 4), 2);
        Due.is("comes", x.of(0, 6), 950);
        x.hand(0, 0);
        x.press(0, 5);
        Due.is("came", x.of(0, 5), 1);
        Due.reads(x, 0, "comes 100*mind+2000*came-1;", 1);
        Due.is("held to 1000", x.of(0, 6), 1000);
        Due.reads(x, 0, "comes mind;", 1);
        Due.is("held to 0", x.of(0, 6), 0);
        Due.reads(x, 0, "comes 7 when depth=0 and row=0 and beside=0 and height=3 and press=9;", 1);
        Due.is("at no cell", x.of(0, 6), 7);
        x.set(1, 0, 0);
        Due.reads(x, 0, "comes mind+5;", 1);
        Due.is("mind 0", x.of(0, 6), 5);
    }

    private static void whose() {
        ThumbBallot x = new ThumbBallot();
        Due.is("no voters", x.whose(0, 8), 0);
        Due.is("no voters", x.whose(0, -1), -1);
        x.voter(0b11110000, 0, 0, 0);
        x.voter(0b11110001, 0, 0, 0);
        x.voter(0b00001111, 0, 0, 0);
        x.voter(0b11110001, 0, 0, 0);
        Due.is("d 0", x.whose(0b11110001, 0), 0b1010);
        Due.is("d 1", x.whose(0b11110001, 1), 0b1011);
        Due.is("d 6", x.whose(0b11110001, 6), 0b1011);
        Due.is("d 7", x.whose(0b11110001, 7), 0b1111);
        Due.is("d 8", x.whose(0, 8), 0b1111);
        Due.is("d 0, nobody", x.whose(0, 0), 0);
        Due.is("the least of several", x.whose(0b11110001, -1), 1);
        Due.is("nearest", x.whose(0b00000111, -1), 2);
        Due.is("nearest, alike far", x.whose(0, -1), 0);
        Due.is("d 9", x.whose(0, 9), -1);
        Due.is("d -2", x.whose(0, -2), -1);
        Due.is("whorl 256", x.whose(256, 0), -1);
        Due.is("whorl -1", x.whose(-1, 0), -1);
        Due.is("whorl 256", x.whose(256, -1), -1);
    }
}
