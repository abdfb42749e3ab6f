/** Promises 9 to 12 and 19: the tape, the four texts and their faults, whom a twin could be. */
public final class TextsTest {
    public static void main(String[] args) {
        tape();
        noSuchText();
        law();
        lawTells();
        lawFaults();
        open();
        lines();
        ways();
        sky();
        twins();
        tokens();
        staysAsItWas();
        Due.finish();
    }

    private static ThumbBallot voters(int n) {
        ThumbBallot x = new ThumbBallot();
        for (int i = 0; i < n; i++) {
            x.voter(i, 1, 5, 4);
        }
        return x;
    }

    private static void tape() {
        ThumbBallot x = new ThumbBallot();
        Due.no("end 1 of nothing", x.end(1));
        Due.no("end -1", x.end(-1));
        Due.yes("end 0", x.end(0));
        for (int i = 1; i <= 20; i++) {
            Due.is("feed", x.feed(0, 0, 0, 0, 0), 20 * i);
        }
        Due.is("feed", x.feed(0, 0, 0, 0, 0), -1);
        Due.no("end 401", x.end(401));
        Due.yes("end 400", x.end(400));
        Due.yes("end 381", x.end(381));
        Due.is("feed", x.feed(0, 0, 0, 0, 0), -1);
        Due.no("end 382", x.end(382));
        Due.yes("end 380", x.end(380));
        Due.is("feed", x.feed(0, 0, 0, 0, 0), 400);
        Due.is("a text of 400", x.text(0), -1);
        Due.is("at 0", x.fault(1), 0);
        Due.is("empty then", x.feed(0, 0, 0, 0, 0), 20);
        Due.is("a fault", x.text(1), -1);
        Due.is("empty then, too", x.feed(0, 0, 0, 0, 0), 20);
        Due.yes("end 0", x.end(0));
        Due.is("no lines", x.text(2), 0);
        // of each number the highest byte first: "come" "s 1;" and blanks
        x.feed(0x636f6d65, 0x7320313b, 0x20202020, 0x0a0a0a0a, 0x20202020);
        Due.is("comes 1;", x.text(0), 1);
        x.voter(0, 1, 1, 1);
        Due.is("comes", x.of(0, 6), 1);
        // bytes above 127 stay bytes
        x.feed(0xff000000, -1, -1, -1, -1);
        Due.is("no word", x.text(0), -1);
        Due.is("place", x.fault(1), 0);
    }

    private static void noSuchText() {
        ThumbBallot x = voters(1);
        int[] no = {-1, 4, Integer.MIN_VALUE, Integer.MAX_VALUE};
        for (int k : no) {
            Due.faulty(x, 0, "comes", 1, 5);
            Due.is("text " + k, x.text(k), -1);
            Due.is("fault 0", x.fault(0), 0);
            Due.is("fault 1", x.fault(1), -1);
        }
    }

    private static void law() {
        ThumbBallot x = voters(1);
        Due.reads(x, 0, "", 0);
        Due.reads(x, 0, " \n ", 0);
        Due.reads(x, 0, "comes 1;", 1);
        Due.reads(x, 0, "comes1when 1=1;melts(0-1)".substring(0, 15), 1);
        Due.reads(x, 0, "comes mind+press-height*depth/3*heat/9999 when hour<row and beside=came or day>0;", 1);
        Due.reads(x, 0, "comes 1 when not not(1=1)and(not 2<1 or(1>0));melts\n0;weighs 9999;", 3);
        Due.is("lines", x.look(9), 3);
    }

    private static void comes(ThumbBallot x, String e, int due) {
        Due.reads(x, 0, "comes " + e + ";", 1);
        Due.is("comes " + e, x.of(0, 6), due);
    }

    private static void holds(ThumbBallot x, String b, boolean due) {
        Due.reads(x, 0, "comes 7 when " + b + ";comes 3;", 2);
        Due.is("when " + b, x.of(0, 6), due ? 7 : 3);
    }

    private static void lawTells() {
        ThumbBallot x = voters(1);
        comes(x, "2+3*4", 14);
        comes(x, "20-3-4", 13);
        comes(x, "20-3+4", 21);
        comes(x, "100/7/2", 7);
        comes(x, "100/7*2", 28);
        comes(x, "3*7/2", 10);
        comes(x, "2*3*4+5*6-1", 53);
        comes(x, "100+mind-2/2", 100);
        comes(x, "0007", 7);
        // towards 0: a part below 0; and ints that wrap
        x = voters(1);
        x.set(1, 0, -1);
        comes(x, "10+mind*7/2", 7);
        x = voters(1);
        comes(x, "9999*9999*9999/9999", Math.max(0, Math.min(1000, 9999 * 9999 * 9999 / 9999)));
        comes(x, "8192*8192*64", 0);
        comes(x, "8192*8192*32", 0);
        comes(x, "8192*8192*32-1", 1000);
        comes(x, "0-8192*8192*32-1", 1000);
        holds(x, "1=1", true);
        holds(x, "1=2", false);
        holds(x, "1<2", true);
        holds(x, "2<2", false);
        holds(x, "2>2", false);
        holds(x, "3>2", true);
        holds(x, "not 1=1", false);
        holds(x, "not 1=2 and 1=2", false);
        holds(x, "not (1=2 and 1=2)", true);
        holds(x, "1=1 or 1=1 and 1=2", true);
        holds(x, "(1=1 or 1=1) and 1=2", false);
        holds(x, "1=2 and 1=1 or 1=1", true);
        holds(x, "1=2 or 1=2 or 1=1", true);
        holds(x, "1=1 and 1=1 and 1=2", false);
        holds(x, "1+1=2 and 2*3>5", true);
        Due.reads(x, 0, "melts 1;comes 2 when 1=2;comes 4;comes 5;", 4);
        Due.is("the first that holds", x.of(0, 6), 4);
        Due.reads(x, 0, "melts 1;comes 2 when 1=2;", 2);
        Due.is("none holds", x.of(0, 6), 700);
    }

    private static void lawFaults() {
        ThumbBallot x = voters(1);
        Due.faulty(x, 0, ";", 1, 0);
        Due.faulty(x, 0, "comes", 1, 5);
        Due.faulty(x, 0, "comes   ", 1, 8);
        Due.faulty(x, 0, "comes 1", 1, 7);
        Due.faulty(x, 0, "comes 1 when", 1, 12);
        Due.faulty(x, 0, "comes 1 when 1", 1, 14);
        Due.faulty(x, 0, "comes 1 when 1;", 1, 14);
        Due.faulty(x, 0, "comes 1 when 1=;", 1, 15);
        Due.faulty(x, 0, "comes 1 when 1=1", 1, 16);
        Due.faulty(x, 0, "comes 1 when (1=1;", 1, 17);
        Due.faulty(x, 0, "comes 1 when 1=1);", 1, 16);
        Due.faulty(x, 0, "comes 1 when (1)=1;", 1, 15);
        Due.faulty(x, 0, "comes (1);", 1, 6);
        Due.faulty(x, 0, "comes -1;", 1, 6);
        Due.faulty(x, 0, "comes 1+;", 1, 8);
        Due.faulty(x, 0, "comes 1 2;", 1, 8);
        Due.faulty(x, 0, "comes 1/mind;", 1, 8);
        Due.faulty(x, 0, "comes 1/0;", 2, 8);
        Due.faulty(x, 0, "comes 1/0000;", 2, 8);
        Due.faulty(x, 0, "comes 1/00000;", 1, 8);
        Due.faulty(x, 0, "comes 1/0", 2, 8);
        Due.faulty(x, 0, "comes 12345;", 1, 6);
        Due.faulty(x, 0, "comes 1;;", 1, 8);
        Due.faulty(x, 0, "comes 1;row 2;", 1, 8);
        Due.faulty(x, 0, "comes voter;", 1, 6);
        Due.faulty(x, 0, "comes Mind;", 1, 6);
        Due.faulty(x, 0, "comesmind;", 1, 0);
        Due.faulty(x, 0, "comes 1 when 1<=1;", 1, 15);
        Due.faulty(x, 0, "comes 1 when or 1=1;", 1, 13);
        Due.faulty(x, 0, "comes 1 when 1=1 and;", 1, 20);
        Due.faulty(x, 0, "comes 1 when 1=1=1;", 1, 16);
        Due.faulty(x, 0, "comes 1 when not;", 1, 16);
        Due.faulty(x, 0, "comes 1 . ;", 1, 8);
        Due.faulty(x, 0, "comes 1\t;", 1, 7);
        Due.faulty(x, 0, "comes 1/0 when (((((((((;12345", 2, 8);
    }

    private static void open() {
        ThumbBallot x = voters(1);
        Due.reads(x, 0, "comes 1 when ((((((((1=1))))))));", 1);
        Due.faulty(x, 0, "comes 1 when (((((((((1=1)))))))));", 3, 21);
        Due.reads(x, 0, "comes 1 when not not not not not not not not 1=1;", 1);
        Due.faulty(x, 0, "comes 1 when not not not not not not not not(1=1);", 3, 44);
        Due.faulty(x, 0, "comes 1 when ((((((((not 1=1))))))));", 3, 21);
        Due.faulty(x, 0, "comes 1 when ((((((((1=1 and (1=1)))))))));", 3, 29);
        Due.reads(x, 0, "comes 1 when (((((((1=1 and (1=1) or not 1=1)))))));", 1);
        // a not is closed behind its C
        Due.reads(x, 0, "comes 1 when not 1=1 and not 1=1 and not 1=1 and not 1=1 and not 1=1 and not 1=1 "
                + "and not 1=1 and not 1=1 and not 1=1 or not 1=1 or (1=1) or (1=1);", 1);
        Due.faulty(x, 0, "comes 1 when ((((((((1=1))))))))(", 1, 32);
    }

    private static String times(int n, String s) {
        return s.repeat(n);
    }

    private static void lines() {
        ThumbBallot x = voters(2);
        String[] one = {"comes 1;", "voter 0 at 0 to 0;", "on 0 heat 0 at 0;", "voter 0 twin 1;"};
        for (int k = 0; k < 4; k++) {
            Due.reads(x, k, times(16, one[k]), 16);
            Due.faulty(x, k, times(17, one[k]), 3, 16 * one[k].length());
            Due.faulty(x, k, times(16, one[k]) + "\n " + one[k].substring(0, 5), 3,
                    16 * one[k].length() + 2);
            Due.faulty(x, k, times(16, one[k]) + "to", 1, 16 * one[k].length());
            Due.is("lines", x.look(9 + k), 16);
        }
    }

    private static void ways() {
        ThumbBallot x = new ThumbBallot();
        Due.faulty(x, 1, "voter 0 at 0 to 0;", 2, 6);
        x = voters(20);
        Due.reads(x, 1, "voter 19 at 11 to 11;voter 0 at 0 to 0;", 2);
        Due.faulty(x, 1, "voter 20 at 0 to 0;", 2, 6);
        Due.faulty(x, 1, "voter 0 at 12 to 0;", 2, 11);
        Due.faulty(x, 1, "voter 0 at 0 to 12;", 2, 16);
        Due.faulty(x, 1, "voter at 0 to 0;", 1, 6);
        Due.faulty(x, 1, "voter 0 to 0 at 0;", 1, 8);
        Due.faulty(x, 1, "voter 0 at 0 to 0", 1, 17);
        Due.faulty(x, 1, "voter 0 at 0 to 0 1;", 1, 18);
        Due.faulty(x, 1, "on 0 heat 1 at 1;", 1, 0);
        Due.faulty(x, 1, "voter 20", 2, 6);
        Due.faulty(x, 1, "voter 00000 at 0 to 0;", 1, 6);
        Due.faulty(x, 1, "voter comes at 0 to 0;", 1, 6);
        Due.is("lines", x.look(10), 2);
    }

    private static void sky() {
        ThumbBallot x = voters(2);
        Due.reads(x, 2, "on 999 heat 9 at 11;on 0 putty at 11 11 11;on 0 mind 1 none;", 3);
        Due.is("lines", x.look(11), 3);
        Due.faulty(x, 2, "on 1000 heat 0 at 0;", 2, 3);
        Due.faulty(x, 2, "on 0 heat 10 at 0;", 2, 10);
        Due.faulty(x, 2, "on 0 heat 0 at 12;", 2, 15);
        Due.faulty(x, 2, "on 0 putty at 12 0 0;", 2, 14);
        Due.faulty(x, 2, "on 0 putty at 0 12 0;", 2, 16);
        Due.faulty(x, 2, "on 0 putty at 0 0 12;", 2, 18);
        Due.faulty(x, 2, "on 0 mind 2 for;", 2, 10);
        Due.faulty(x, 2, "on 0 mind 1 up;", 1, 12);
        Due.faulty(x, 2, "on 0 mind 1;", 1, 11);
        Due.faulty(x, 2, "on 0 voter 1 for;", 1, 5);
        Due.faulty(x, 2, "on heat 1 at 1;", 1, 3);
        Due.faulty(x, 2, "on 0 heat 1 1;", 1, 12);
        Due.faulty(x, 2, "on 0;", 1, 4);
        Due.faulty(x, 2, "on 0 putty 0 0 0;", 1, 11);
        Due.faulty(x, 2, "on 0 putty at 0 0;", 1, 17);
    }

    private static void twins() {
        ThumbBallot x = voters(20);
        Due.is("himself", x.could(3), 8);
        Due.is("none such", x.could(20), -1);
        Due.is("none such", x.could(-1), -1);
        Due.reads(x, 3, "voter 0 twin 1;voter 2 twin 1;voter 2 twin 3;voter 19 twin 18;voter 0 twin 1;", 5);
        Due.is("lines", x.look(12), 5);
        for (int i = 0; i < 4; i++) {
            Due.is("could", x.could(i), 15);
        }
        Due.is("could", x.could(19), 3 << 18);
        Due.is("could", x.could(5), 32);
        Due.is("twins of 0", x.of(0, 7), 2);
        Due.is("twins of 1", x.of(1, 7), 5);
        Due.is("twins of 18", x.of(18, 7), 1 << 19);
        Due.is("twins of 5", x.of(5, 7), 0);
        Due.faulty(x, 3, "voter 0 twin 0;", 2, 13);
        Due.faulty(x, 3, "voter 3 twin 0003;", 2, 13);
        Due.faulty(x, 3, "voter 0 twin 20;", 2, 13);
        Due.faulty(x, 3, "voter 20 twin 0;", 2, 6);
        Due.faulty(x, 3, "voter 0 twin;", 1, 12);
        Due.faulty(x, 3, "voter 0 1;", 1, 8);
        Due.faulty(x, 3, "voter 0 twin 1", 1, 14);
        // a long chain of sixteen
        StringBuilder chain = new StringBuilder();
        for (int i = 0; i < 16; i++) {
            chain.append("voter ").append(16 - i).append(" twin ").append(15 - i).append(";");
        }
        Due.reads(x, 3, chain.toString(), 16);
        Due.is("could", x.could(0), (1 << 17) - 1);
        Due.is("could", x.could(16), (1 << 17) - 1);
        Due.is("could", x.could(17), 1 << 17);
    }

    private static void tokens() {
        ThumbBallot x = voters(1);
        Due.reads(x, 1, "voter0at0to0;voter 0at 1to 2 ;", 2);
        Due.reads(x, 1, "\nvoter\n0\nat 0 to 0\n;\n", 1);
        Due.faulty(x, 1, "voter\r0 at 0 to 0;", 1, 5);
        Due.faulty(x, 1, "voter 0 at 0 to 0;" + (char) 233, 1, 18);
        Due.faulty(x, 1, "voter 0 at 0 to 0;" + (char) 0, 1, 18);
        Due.faulty(x, 1, "vote r 0 at 0 to 0;", 1, 0);
        Due.faulty(x, 1, "voters 0 at 0 to 0;", 1, 0);
        Due.faulty(x, 1, "v", 1, 0);
        Due.faulty(x, 1, "voterz 0 at 0 to 0;", 1, 0);
        Due.faulty(x, 1, "voterZ 0 at 0 to 0;", 1, 0);
        Due.faulty(x, 1, "voterA 0 at 0 to 0;", 1, 0);
        Due.faulty(x, 1, "voter{0 at 0 to 0;", 1, 5);
        Due.faulty(x, 1, "voter[0 at 0 to 0;", 1, 5);
        Due.faulty(x, 1, "voter`0 at 0 to 0;", 1, 5);
        Due.faulty(x, 1, "voter@0 at 0 to 0;", 1, 5);
        Due.faulty(x, 3, "voter 0 twi", 1, 8);
        Due.faulty(x, 3, "voter 0 twinx", 1, 8);
        Due.faulty(x, 1, "VOTER 0 at 0 to 0;", 1, 0);
    }

    private static void staysAsItWas() {
        ThumbBallot x = voters(2);
        Due.reads(x, 0, "comes 42;", 1);
        Due.faulty(x, 0, "comes 41;comes 3;melts", 1, 22);
        Due.is("the law stays", x.of(0, 6), 42);
        Due.reads(x, 3, "voter 0 twin 1;", 1);
        Due.faulty(x, 3, "voter 1 twin 0;voter 1 twin 1;", 2, 28);
        Due.is("twins stay", x.of(0, 7), 2);
        Due.reads(x, 0, "", 0);
        Due.is("no law", x.of(0, 6), 700);
    }
}
