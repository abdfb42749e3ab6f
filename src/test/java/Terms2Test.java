/** The document's Terms, 2, TEXTS: each boundary that a sentence names. */
public final class Terms2Test {
    private static final String[] LINE = {"comes 1;", "voter 0 at 0 to 0;", "on 0 heat 0 at 0;", "voter 0 twin 1;"};

    public static void main(String[] args) {
        emptyAtFirst();
        noLines();
        wholeLines();
        nothingElseStandsThere();
        lawLineOpens();
        whenIsFree();
        orAndNot();
        sumsAndTimes();
        noBracketsInSums();
        everyWordOfU();
        ways();
        skyDay();
        skyHeat();
        skyPutty();
        skyMind();
        twinsEitherWay();
        twinsUnlike();
        sixteenLines();
        lettersTogether();
        keywordsOfThatText();
        digitsTogether();
        signs();
        everyByte();
        blanks();
        intsWrap();
        partsTowardsZero();
        theEnd();
        partByZero();
        voterThereIsNot();
        firstByPlace();
        leastAtOnePlace();
        ninthOpen();
        eightOpenAndAllThatWaits();
        openIsClosedAgain();
        firstLineThatIsSo();
        noneOfTheLaw();
        lawsOneBehindAnother();
        heldToBounds();
        wordsOfComes();
        wordsOfMarks();
        beside();
        Due.finish();
    }

    private static ThumbBallot voters(int n) {
        ThumbBallot x = new ThumbBallot();
        for (int i = 0; i < n; i++) {
            x.voter(i, 1, 5, 4);
        }
        return x;
    }

    private static void fine(int k, String text, int lines) {
        Due.reads(voters(3), k, text, lines);
    }

    private static void fault(int k, String text, int fault, int place) {
        Due.faulty(voters(3), k, text, fault, place);
    }

    private static void comes(String e, int due) {
        ThumbBallot x = voters(1);
        Due.reads(x, 0, "comes " + e + ";", 1);
        Due.is("comes " + e, x.of(0, 6), due);
    }

    private static void so(String b, boolean due) {
        comes("7 when " + b, due ? 7 : 700);
    }

    private static void emptyAtFirst() {
        Due.says("TEXTS (empty at first)");
        ThumbBallot x = voters(2);
        for (int k = 0; k < 4; k++) {
            Due.is("lines", x.look(9 + k), 0);
        }
        Due.is("no twins", x.of(0, 7), 0);
        Due.is("nobody comes", x.hours(12), 0);
        Due.is("no weather", x.look(2), 0);
    }

    private static void noLines() {
        Due.says("{ .. }: none at all");
        ThumbBallot x = voters(2);
        for (int k = 0; k < 4; k++) {
            Due.reads(x, k, LINE[k] + LINE[k], 2);
            Due.is("lines", x.look(9 + k), 2);
        }
        for (int k = 0; k < 4; k++) {
            Due.reads(x, k, k % 2 == 0 ? "" : "  \n ", 0);
            Due.is("lines", x.look(9 + k), 0);
        }
        Due.is("comes as at first", x.of(0, 6), 700);
        Due.is("no twins again", x.of(0, 7), 0);
        Due.is("nobody comes again", x.hours(1), 0);
    }

    /** Cut behind each token, and with each token another that can't stand there. */
    private static void cutAndSpoil(int k, String line) {
        String[] tokens = line.split(" ");
        for (int i = 0; i < tokens.length; i++) {
            String ahead = String.join(" ", java.util.Arrays.copyOf(tokens, i)) + (i == 0 ? "" : " ");
            if (i > 0) {
                fault(k, ahead, 1, ahead.length());
                fault(k, ahead.trim(), 1, ahead.length() - 1);
            }
            fault(k, ahead + "? " + tokens[i], 1, ahead.length());
            if (k != 0) {
                fault(k, ahead + "; ;", 1, tokens[i].equals(";") ? ahead.length() + 2 : ahead.length());
            }
            fault(k, ahead + "12345", 1, ahead.length());
            fault(k, ahead + "xyz", 1, ahead.length());
            if (Character.isLetter(tokens[i].charAt(0))) {
                fault(k, ahead + tokens[i].substring(1), 1, ahead.length());
                fault(k, ahead + tokens[i].substring(0, tokens[i].length() - 1), 1, ahead.length());
                fault(k, ahead + tokens[i] + "s", 1, ahead.length());
            }
        }
        fine(k, line, 1);
    }

    private static void wholeLines() {
        Due.says("1 what can't stand there: in THE LAW");
        cutAndSpoil(0, "comes 1 + mind * 2 / 3 - 4 when not ( 1 < 2 or heat = 3 ) and 5 > day ;");
        cutAndSpoil(0, "melts depth ;");
        Due.says("1 what can't stand there: in WAYS");
        cutAndSpoil(1, "voter 2 at 11 to 0 ;");
        Due.says("1 what can't stand there: in SKY");
        cutAndSpoil(2, "on 999 heat 9 at 11 ;");
        cutAndSpoil(2, "on 0 putty at 1 2 3 ;");
        cutAndSpoil(2, "on 0 mind 2 against ;");
        Due.says("1 what can't stand there: in TWINS");
        cutAndSpoil(3, "voter 2 twin 0 ;");
    }

    private static void nothingElseStandsThere() {
        Due.says("1 what can't stand there: one too many");
        fault(0, "comes 1 2;", 1, 8);
        fault(0, "comes 1 when 1=1 when 1=1;", 1, 17);
        fault(0, "comes 1 when 1=1);", 1, 16);
        fault(0, "comes 1 when 1=1=1;", 1, 16);
        fault(1, "voter 0 at 1 to 2 3;", 1, 18);
        fault(2, "on 0 heat 1 at 2 3;", 1, 17);
        fault(2, "on 0 putty at 1 2 3 4;", 1, 20);
        fault(2, "on 0 mind 0 for none;", 1, 16);
        fault(3, "voter 0 twin 1 2;", 1, 15);
        for (int k = 0; k < 4; k++) {
            fault(k, LINE[k] + ";", 1, LINE[k].length());
            fault(k, ";" + LINE[k], 1, 0);
        }
    }

    private static void lawLineOpens() {
        Due.says("(comes | melts | weighs) E");
        fine(0, "comes 0;melts 0;weighs 0;", 3);
        String[] no = {"mind", "when", "or", "not", "1", "(", "row", "+"};
        for (String s : no) {
            fault(0, s + " 0;", 1, 0);
            fault(0, "comes 0;" + s + " 0;", 1, 8);
        }
    }

    private static void whenIsFree() {
        Due.says("[when B]");
        fine(0, "comes 1;comes 1 when 1=1;", 2);
        fault(0, "comes 1 when;", 1, 12);
        fault(0, "comes 1 1=1;", 1, 8);
        fault(0, "comes when 1=1;", 1, 6);
    }

    private static void orAndNot() {
        Due.says("B = A {or A}.  A = C {and C}.  C = E (< | = | >) E | not C | ( B )");
        so("1=1", true);
        so("1=2", false);
        so("1<2", true);
        so("2<2", false);
        so("3<2", false);
        so("1>2", false);
        so("2>2", false);
        so("3>2", true);
        so("1=1 or 1=1 and 1=2", true);
        so("1=2 and 1=1 or 1=1", true);
        so("(1=1 or 1=1) and 1=2", false);
        so("1=2 and (1=1 or 1=1)", false);
        so("1=2 or 1=2 or 1=1", true);
        so("1=2 or 1=1 or 1=2", true);
        so("1=2 or 1=2 or 1=2", false);
        so("1=1 and 1=1 and 1=2", false);
        so("1=1 and 1=1 and 1=1", true);
        so("1=1 and 1=2 or 1=1 and 1=1", true);
        so("1=1 and 1=2 or 1=1 and 1=2", false);
        so("not 1=1", false);
        so("not 1=2", true);
        so("not not 1=1", true);
        so("not 1=2 and 1=2", false);
        so("not (1=2 and 1=2)", true);
        so("not 1=1 or 1=1", true);
        so("not (1=1 or 1=1)", false);
        so("1<2 and 1=1", true);
        so("2>1 and 1=1", true);
        so("not 1<2", false);
        so("not 2>1", false);
        so("not 1<1", true);
        so("not 1>1", true);
        so("1+1=2", true);
        so("2*3>6-1", true);
        fault(0, "comes 1 when (1)=1;", 1, 15);
        fault(0, "comes 1 when 1=(1);", 1, 15);
        fault(0, "comes 1 when 1=not 1;", 1, 15);
        fault(0, "comes 1 when ();", 1, 14);
        fault(0, "comes 1 when 1<=1;", 1, 15);
    }

    private static void sumsAndTimes() {
        Due.says("E = T {(+ | -) T}.  T = U {* U | / NUMBER}");
        comes("9", 9);
        comes("20-3-4", 13);
        comes("20-3+4", 21);
        comes("2+3*4", 14);
        comes("2*3+4", 10);
        comes("20-2*3*3", 2);
        comes("20-18/3/2", 17);
        comes("100/7*2", 28);
        comes("3*7/2", 10);
        comes("100/9999", 0);
        comes("100/1", 100);
        comes("9999/10", 999);
        fault(0, "comes 8/mind;", 1, 8);
        fault(0, "comes 8/(2);", 1, 8);
        fault(0, "comes 8//2;", 1, 8);
        fault(0, "comes 8**2;", 1, 8);
        fault(0, "comes 8+;", 1, 8);
    }

    private static void noBracketsInSums() {
        Due.says("U = NUMBER | mind | ..: neither brackets nor a sign ahead");
        fault(0, "comes (1);", 1, 6);
        fault(0, "comes 2*(1);", 1, 8);
        fault(0, "comes -1;", 1, 6);
        fault(0, "comes +1;", 1, 6);
        fault(0, "comes 2*-1;", 1, 8);
    }

    private static void everyWordOfU() {
        Due.says("U = NUMBER | mind | press | height | depth | heat | hour | row | beside | came | day");
        String[] all = {"mind", "press", "height", "depth", "heat", "hour", "row", "beside", "came", "day", "0", "9999"};
        for (String u : all) {
            fine(0, "weighs " + u + ";", 1);
            fine(0, "weighs 1*" + u + " when " + u + "<" + u + ";", 1);
        }
        String[] none = {"comes", "melts", "weighs", "voter", "column", "whorl", "hand", "for", "when", "not"};
        for (String u : none) {
            fault(0, "weighs " + u + ";", 1, 7);
        }
    }

    private static void ways() {
        Due.says("voter VOTER at HOUR to COLUMN (0 .. 11 both)");
        fine(1, "voter 0 at 0 to 0;voter 0 at 11 to 11;", 2);
        fault(1, "voter 0 at 12 to 0;", 2, 11);
        fault(1, "voter 0 at 9999 to 0;", 2, 11);
        fault(1, "voter 0 at 0 to 12;", 2, 16);
        fault(1, "voter 0 at 0 to 9999;", 2, 16);
        ThumbBallot x = voters(1);
        Due.reads(x, 0, "comes 1000;melts 0;", 2);
        Due.reads(x, 1, "voter 0 at 0 to 0;voter 0 at 11 to 11;", 2);
        Due.is("at HOUR 0", x.hours(1), 1);
        Due.is("to COLUMN 0", x.cell(0, 0, 0), 0);
        Due.is("not between", x.hours(10), 0);
        Due.is("at HOUR 11", x.hours(1), 1);
        Due.is("to COLUMN 11", x.book(1, 4), 11);
    }

    private static void skyDay() {
        Due.says("DAY 0 .. 999");
        fine(2, "on 0 heat 1 at 1;on 999 heat 1 at 1;on 0999 heat 1 at 1;", 3);
        fault(2, "on 1000 heat 1 at 1;", 2, 3);
        fault(2, "on 9999 heat 1 at 1;", 2, 3);
        ThumbBallot x = voters(1);
        Due.reads(x, 2, "on 999 heat 7 at 0;on 0 heat 3 at 0;", 2);
        x.hours(1);
        Due.is("HEAT of DAY 0", x.look(2), 3);
        for (int i = 0; i < 199; i++) {
            x.hours(60);
        }
        x.hours(47);
        Due.is("DAY", x.look(4), 999);
        Due.is("HEAT yet", x.look(2), 3);
        x.hours(1);
        Due.is("HEAT of DAY 999", x.look(2), 7);
    }

    private static void skyHeat() {
        Due.says("heat N at HOUR (heat 0 .. 9)");
        fine(2, "on 0 heat 0 at 0;on 0 heat 9 at 11;", 2);
        fault(2, "on 0 heat 10 at 0;", 2, 10);
        fault(2, "on 0 heat 0 at 12;", 2, 15);
    }

    private static void skyPutty() {
        Due.says("putty at HOUR COLUMN ROW");
        fine(2, "on 0 putty at 0 0 0;on 0 putty at 11 11 11;", 2);
        fault(2, "on 0 putty at 12 0 0;", 2, 14);
        fault(2, "on 0 putty at 0 12 0;", 2, 16);
        fault(2, "on 0 putty at 0 0 12;", 2, 18);
        ThumbBallot x = voters(1);
        x.press(0, 1);
        x.press(0, 1);
        Due.reads(x, 2, "on 0 putty at 0 0 1;on 0 putty at 0 1 1;", 2);
        x.hours(1);
        Due.is("COLUMN 1, ROW 1", x.cell(1, 1, 0), -1);
        Due.is("the other stays", x.cell(0, 1, 0), 0);
    }

    private static void skyMind() {
        Due.says("mind VOTER (for | against | none)");
        fine(2, "on 0 mind 0 for;on 0 mind 1 against;on 0 mind 2 none;", 3);
        fault(2, "on 0 mind 3 for;", 2, 10);
        fault(2, "on 0 mind 0 1;", 1, 12);
        fault(2, "on 0 mind 0 mind;", 1, 12);
        fault(2, "on 0 mind for;", 1, 10);
        ThumbBallot x = voters(3);
        x.set(1, 0, -1);
        Due.reads(x, 2, "on 0 mind 0 for;on 0 mind 1 against;on 0 mind 2 none;", 3);
        x.hours(1);
        Due.is("for", x.of(0, 1), 1);
        Due.is("against", x.of(1, 1), -1);
        Due.is("none", x.of(2, 1), 0);
    }

    private static void twinsEitherWay() {
        Due.says("voter VOTER twin VOTER (either way)");
        ThumbBallot x = voters(20);
        Due.reads(x, 3, "voter 19 twin 0;voter 0 twin 5;voter 5 twin 0;", 3);
        Due.is("of 0", x.of(0, 7), 1 << 19 | 1 << 5);
        Due.is("of 5", x.of(5, 7), 1);
        Due.is("of 19", x.of(19, 7), 1);
        Due.is("of 1", x.of(1, 7), 0);
    }

    private static void twinsUnlike() {
        Due.says("(unlike); 2 the same VOTER again (of TWINS)");
        fault(3, "voter 0 twin 0;", 2, 13);
        fault(3, "voter 2 twin 0002;", 2, 13);
        fault(3, "voter 2 twin 1;voter 1 twin 1;", 2, 28);
        fine(3, "voter 0 twin 1;voter 0 twin 1;voter 1 twin 0;", 3);
    }

    private static void sixteenLines() {
        Due.says("16 lines of each at most; 3 (at its KEYWORD) the 17th line of a text");
        for (int k = 0; k < 4; k++) {
            String sixteen = LINE[k].repeat(16);
            fine(k, sixteen, 16);
            fine(k, sixteen + " \n", 16);
            fault(k, sixteen + LINE[k], 3, sixteen.length());
            fault(k, sixteen + " \n" + LINE[k], 3, sixteen.length() + 2);
            // the keyword alone is enough, whatever is behind it
            fault(k, sixteen + LINE[k].substring(0, LINE[k].indexOf(' ')), 3, sixteen.length());
            fault(k, LINE[k].repeat(15) + LINE[k].replace(";", " "), 1, sixteen.length());
        }
        String words = "melts 1;".repeat(8) + "weighs 1;".repeat(8);
        fine(0, words, 16);
        fault(0, words + "comes 1;", 3, words.length());
    }

    private static void lettersTogether() {
        Due.says("letters as many as stand together are KEYWORDS or none");
        fault(0, "comesmelts 1;", 1, 0);
        fault(0, "come s 1;", 1, 0);
        fault(0, "comess 1;", 1, 0);
        fault(0, "come 1;", 1, 0);
        fault(0, "c 1;", 1, 0);
        fault(0, "COMES 1;", 1, 0);
        fault(0, "Comes 1;", 1, 0);
        for (char c : "azAZ".toCharArray()) {
            fault(0, "comes" + c + " 1;", 1, 0);
        }
        for (char c : "`{@[_".toCharArray()) {
            fault(0, "comes" + c + " 1;", 1, 5);
        }
        fault(0, "comes 1 when 1=1 andnot 1=2;", 1, 17);
        fault(0, "comes 1 when 1=1 orr 1=2;", 1, 17);
        fault(0, "comes heathour;", 1, 6);
        fine(0, "comes1when not(1=1)and not 1=2or 1=1;", 1);
        fine(1, "voter0at0to0;", 1);
        fine(2, "on0heat1at2;on0putty at1 2 3;on0mind0for;", 3);
        fine(3, "voter0twin1;", 1);
    }

    private static void keywordsOfThatText() {
        Due.says("KEYWORDS (those told here for that text) or none");
        for (int k = 0; k < 4; k++) {
            for (int other = 0; other < 4; other++) {
                boolean alike = k == other || k + other == 4 && k != 2;
                if (!alike) {
                    fault(k, LINE[other], 1, 0);
                }
            }
        }
        fault(1, "voter 0 twin 1;", 1, 8);
        fault(3, "voter 0 at 0 to 0;", 1, 8);
        fault(0, "comes voter;", 1, 6);
        fault(2, "on 0 day 1 at 1;", 1, 5);
    }

    private static void digitsTogether() {
        Due.says("digits as many as stand together NUMBERS of 1 to 4 digits or none");
        comes("7", 7);
        comes("07", 7);
        comes("0007", 7);
        comes("9999-9000", 999);
        fault(0, "comes 00007;", 1, 6);
        fault(0, "comes 10000;", 1, 6);
        fault(0, "comes 99999999999999999999;", 1, 6);
        fault(0, "comes 1/00001;", 1, 8);
        fault(1, "voter 00000 at 0 to 0;", 1, 6);
        fine(1, "voter 0000 at 0011 to 0011;", 1);
        fault(0, "comes 1 1;", 1, 8);
    }

    private static void signs() {
        Due.says("; + - * / ( ) < = > and no other sign");
        String ahead = "comes 1 when 1=1";
        for (int c = 0; c < 256; c++) {
            String text = ahead + (char) c;
            boolean digit = c >= '0' && c <= '9';
            boolean goesOn = digit || c == 32 || c == 10 || c == '+' || c == '-' || c == '*' || c == '/';
            if (c == ';') {
                fine(0, text, 1);
            } else {
                fault(0, text, 1, goesOn ? 17 : 16);
            }
        }
    }

    /** Every byte where a number, a line or a voter is due: none of them is taken for a token that it is not. */
    private static void everyByte() {
        Due.says("TOKENS: every byte, where a NUMBER is due, or a line or the end");
        for (int c = 0; c < 256; c++) {
            boolean blank = c == 32 || c == 10;
            boolean digit = c >= '0' && c <= '9';
            String number = "comes " + (char) c + ";";
            String line = "comes 1;" + (char) c;
            String voter = "voter " + (char) c + " at 0 to 0;";
            if (digit) {
                fine(0, number, 1);
            } else {
                fault(0, number, 1, blank ? 7 : 6);
            }
            if (blank) {
                fine(0, line, 1);
                fine(0, "" + (char) c, 0);
            } else {
                fault(0, line, 1, 8);
                fault(0, "" + (char) c, 1, 0);
            }
            if (c >= '0' && c <= '2') {
                fine(1, voter, 1);
            } else if (digit) {
                fault(1, voter, 2, 6);
            } else {
                fault(1, voter, 1, blank ? 8 : 6);
            }
        }
    }

    private static void blanks() {
        Due.says("Blanks (32, 10) between");
        fine(1, " \n voter\n0   at\n\n0 to 0 \n; \n", 1);
        for (int c = 0; c <= 32; c++) {
            String text = "voter 0 at 0" + (char) c + "to 0;";
            if (c == 32 || c == 10) {
                fine(1, text, 1);
            } else {
                fault(1, text, 1, 12);
            }
        }
        fault(1, "voter 0 at 1 1 to 0;", 1, 13);
    }

    private static void intsWrap() {
        Due.says("Ints, which wrap");
        comes("8192*8192*32", 0);
        comes("8192*8192*32-1", 1000);
        comes("0-8192*8192*32-1", 1000);
        comes("8192*8192*64+5", 5);
        comes("9999*9999*9999*9999/9999/9999", held(9999 * 9999 * 9999 * 9999 / 9999 / 9999));
        so("8192*8192*32<0", true);
        so("8192*8192*64=0", true);
    }

    private static int held(int v) {
        return v < 0 ? 0 : Math.min(v, 1000);
    }

    private static void partsTowardsZero() {
        Due.says("/ goes towards 0");
        ThumbBallot x = voters(1);
        x.set(1, 0, -1);
        String[] e = {"10+mind*7/2", "10+mind*1/2", "10+mind*8/2", "10+mind*9/2/2", "10+mind/9999"};
        int[] due = {7, 10, 6, 8, 10};
        for (int i = 0; i < e.length; i++) {
            Due.reads(x, 0, "comes " + e[i] + ";", 1);
            Due.is(e[i], x.of(0, 6), due[i]);
        }
    }

    private static void theEnd() {
        Due.says("(the end: the text's length)");
        fault(0, "comes", 1, 5);
        fault(0, "comes    ", 1, 9);
        fault(0, "comes 1 \n", 1, 9);
        fault(3, "voter 0 twin 1", 1, 14);
        String long400 = "comes 1" + " ".repeat(393);
        fault(0, long400, 1, 400);
        fine(0, "comes 1" + " ".repeat(392) + ";", 1);
        // all 400 bytes are there, and the last is a letter, a digit, a sign
        fault(0, " ".repeat(395) + "comes", 1, 400);
        fault(0, " ".repeat(393) + "comes 1", 1, 400);
        fault(0, " ".repeat(392) + "comes 1+", 1, 400);
        fault(0, " ".repeat(396) + "come", 1, 396);
    }

    private static void partByZero() {
        Due.says("2 (at the NUMBER) a part by 0");
        fault(0, "comes 1/0;", 2, 8);
        fault(0, "comes 1 /  00;", 2, 11);
        fault(0, "comes 1/0000;", 2, 8);
        fault(0, "comes 1/2/0;", 2, 10);
        fault(0, "comes 1 when 1=1/0;", 2, 17);
        fault(0, "comes 1 when 1/0=1;", 2, 15);
        fine(0, "comes 0/1+0*0-0;", 1);
    }

    private static void voterThereIsNot() {
        Due.says("2 a VOTER that there is not");
        ThumbBallot x = new ThumbBallot();
        for (int i = 0; i <= 20; i++) {
            Due.faulty(x, 1, "voter " + i + " at 0 to 0;", 2, 6);
            if (i < 20) {
                x.voter(0, 1, 0, 0);
                Due.reads(x, 1, "voter " + i + " at 0 to 0;", 1);
            }
        }
        ThumbBallot y = voters(1);
        Due.faulty(y, 2, "on 0 mind 1 for;", 2, 10);
        Due.faulty(y, 3, "voter 0 twin 1;", 2, 13);
        Due.faulty(y, 3, "voter 1 twin 0;", 2, 6);
        Due.faulty(y, 3, "voter 1 twin 1;", 2, 6);
        Due.faulty(y, 3, "voter 0 twin 9999;", 2, 13);
        y.voter(0, 1, 0, 0);
        Due.reads(y, 2, "on 0 mind 1 for;", 1);
        Due.reads(y, 3, "voter 0 twin 1;", 1);
    }

    private static void firstByPlace() {
        Due.says("FAULTS, the first by its place");
        fault(0, "comes 1/0 ?", 2, 8);
        fault(0, "comes ? 1/0", 1, 6);
        fault(0, "comes 1 when (((((((((1/0=?", 3, 21);
        fault(0, "comes 1/0 when (((((((((", 2, 8);
        fault(1, "voter 7 at 12 to 12", 2, 6);
        fault(1, "voter 0 at 12 to 12", 2, 11);
        fault(1, "voter 0 at ? to 12", 1, 11);
        fault(2, "on 1000 ? 10", 2, 3);
        fault(3, "voter 7 twin 7;", 2, 6);
        fault(0, "comes 1;".repeat(15) + "comes 1/0;comes 1;", 2, 15 * 8 + 8);
        fault(0, "comes 1;".repeat(16) + "comes 1/0;", 3, 16 * 8);
    }

    private static void leastAtOnePlace() {
        Due.says("at one place the least");
        for (int k = 0; k < 4; k++) {
            String sixteen = LINE[k].repeat(16);
            fault(k, sixteen + "xyz", 1, sixteen.length());
            fault(k, sixteen + "1", 1, sixteen.length());
            fault(k, sixteen + ";", 1, sixteen.length());
        }
        fault(0, "comes 1 when ((((((((1(", 1, 22);
        fault(0, "comes 1 when ((((((((1=1(", 1, 24);
        fault(0, "comes 1 when ((((((((1 not", 1, 23);
        fault(0, "comes 1/00000;", 1, 8);
    }

    private static void ninthOpen() {
        Due.says("3 (at it) the 9th ( or not that is open");
        for (int nots = 0; nots <= 9; nots++) {
            // so many nots, then brackets: eight in all are fine, the ninth is not
            String eight = "comes 1 when " + "not ".repeat(Math.min(nots, 8)) + "(".repeat(Math.max(0, 8 - nots));
            String closed = ")".repeat(Math.max(0, 8 - nots));
            fine(0, eight + "1=1" + closed + ";", 1);
            fault(0, eight + "(1=1)" + closed + ";", 3, eight.length());
            fault(0, eight + "not 1=1" + closed + ";", 3, eight.length());
            fault(0, eight + "(", 3, eight.length());
        }
        String mixed = "comes 1 when (not (not (not (not ";
        fine(0, mixed + "1=1))));", 1);
        fault(0, mixed + "not 1=1))));", 3, mixed.length());
    }

    private static void eightOpenAndAllThatWaits() {
        Due.says("C = .. | ( B ): eight open, and at each an or and an and that wait");
        String ahead = "1=2 or 1=1 and (".repeat(8) + "1=2 or 1=1 and ";
        String behind = ")".repeat(8);
        so(ahead + "7=1+2*3" + behind, true);
        so(ahead + "8=1+2*3" + behind, false);
        so(ahead + "1+2*3=7" + behind, true);
        so(ahead + "9-2*4/2<6" + behind, true);
        so("1=1 and not ".repeat(8) + "1=2", false);
        so("1=1 and not ".repeat(7) + "not 1=2", false);
        so("not ".repeat(8) + "1=1", true);
        so("not ".repeat(7) + "1=1", false);
    }

    private static void openIsClosedAgain() {
        Due.says("that is open");
        fine(0, "comes 1 when " + "(1=1) and ".repeat(9) + "(1=1);", 1);
        fine(0, "comes 1 when " + "not 1=1 or ".repeat(9) + "not 1=1;", 1);
        fine(0, "comes 1 when (((((((1=1 and (1=1) or not 1=1 and (1=1))))))));", 1);
        fault(0, "comes 1 when ((((((((1=1 and (1=1)))))))));", 3, 29);
        fault(0, "comes 1 when ((((((((1=1 or not 1=1))))))));", 3, 28);
        fine(0, "comes 1 when ((((((((1=1))))))));melts 1 when ((((((((1=1))))))));", 2);
    }

    private static void firstLineThatIsSo() {
        Due.says("E of the first line with that word whose B is so, or that has none");
        String[] laws = {"comes 1;comes 2;", "comes 1 when 1=2;comes 2;", "comes 1 when 1=1;comes 2;",
            "melts 9;comes 3;", "comes 1 when 1=2;comes 2 when 1=2;comes 4 when 1=1;comes 5;"};
        int[] due = {1, 2, 1, 3, 4};
        for (int i = 0; i < laws.length; i++) {
            ThumbBallot x = voters(1);
            Due.text(x, 0, laws[i]);
            Due.is(laws[i], x.of(0, 6), due[i]);
        }
    }

    private static void noneOfTheLaw() {
        Due.says("none: comes: 500 and 50 times press, melts: 100 times heat less 50 times depth, weighs: depth");
        String[] laws = {"", "comes 1 when 1=2;melts 1 when 1=2;weighs 1 when 1=2;"};
        for (String law : laws) {
            for (int press = 0; press <= 9; press += 3) {
                ThumbBallot x = new ThumbBallot();
                x.voter(0, 1, 0, press);
                x.press(0, 0);
                Due.text(x, 0, law);
                Due.is("comes", x.of(0, 6), 500 + 50 * press);
                int depth = 1 + press / 2;
                for (int heat = 0; heat <= 9; heat++) {
                    x.set(4, 0, heat);
                    Due.is("melts", x.cell(0, 0, 3), Math.max(0, 100 * heat - 50 * depth));
                }
                Due.is("weighs", x.cell(0, 0, 4), depth);
            }
        }
        ThumbBallot y = voters(1);
        y.press(0, 0);
        Due.reads(y, 0, "comes 3;", 1);
        Due.is("weighs", y.cell(0, 0, 4), 3);
        Due.is("comes", y.of(0, 6), 3);
    }

    private static void lawsOneBehindAnother() {
        Due.says("The TAPE is TEXT k: a long law, again and again");
        ThumbBallot x = voters(1);
        for (int i = 0; i < 15; i++) {
            String law = ("comes 0 when 1+1+1+1+1+1+1+1+1=" + i + ";").repeat(9) + "comes " + (i + 20) + ";";
            Due.reads(x, 0, law, 10);
            Due.is("comes", x.of(0, 6), i == 9 ? 0 : i + 20);
        }
    }

    private static void heldToBounds() {
        Due.says("comes, melts held to 0 .. 1000, weighs to 0 .. 99");
        String[] e = {"0-1", "0", "1", "99", "100", "999", "1000", "1001", "9999*9999", "0-9999*9999"};
        int[] v = {-1, 0, 1, 99, 100, 999, 1000, 1001, 99980001, -99980001};
        ThumbBallot x = voters(1);
        x.press(0, 0);
        for (int i = 0; i < e.length; i++) {
            Due.reads(x, 0, "comes " + e[i] + ";melts " + e[i] + ";weighs " + e[i] + ";", 3);
            Due.is("comes " + e[i], x.of(0, 6), held(v[i]));
            Due.is("melts " + e[i], x.cell(0, 0, 3), held(v[i]));
            Due.is("weighs " + e[i], x.cell(0, 0, 4), Math.min(99, held(v[i])));
        }
    }

    /** A voter who came twice, his marks, the heat 6, the hour 3, the day 1. */
    private static ThumbBallot asked() {
        ThumbBallot x = new ThumbBallot();
        x.voter(0, 1, 7, 9);
        x.voter(0, -1, 2, 5);
        x.hours(15);
        x.press(1, 4);
        x.press(1, 4);
        x.press(0, 4);
        x.set(1, 0, -1);
        x.set(1, 1, 0);
        x.set(4, 0, 6);
        return x;
    }

    private static final String[] WORDS =
            {"mind", "press", "height", "depth", "heat", "hour", "row", "beside", "came", "day"};

    private static void wordsOfComes() {
        Due.says("mind (comes: his), depth, row, beside (comes: 0)");
        int[][] due = {{-1, 9, 7, 0, 6, 3, 0, 0, 1, 1}, {0, 5, 2, 0, 6, 3, 0, 0, 2, 1}};
        for (int i = 0; i < WORDS.length; i++) {
            ThumbBallot x = asked();
            Due.reads(x, 0, "comes 500+" + WORDS[i] + ";", 1);
            Due.is(WORDS[i], x.of(0, 6), 500 + due[0][i]);
            Due.is(WORDS[i], x.of(1, 6), 500 + due[1][i]);
        }
    }

    private static void wordsOfMarks() {
        Due.says("mind (else 1, -1 of the MARK), press, height, came: the VOTER's; depth: of the MARK; row: of the CELL");
        int[][] due = {{-1, 5, 2, 3, 6, 3, 0, 1, 2, 1}, {-1, 5, 2, 3, 6, 3, 1, 2, 2, 1}, {1, 9, 7, 5, 6, 3, 2, 1, 1, 1}};
        for (int i = 0; i < WORDS.length; i++) {
            ThumbBallot x = asked();
            Due.reads(x, 0, "melts 500+" + WORDS[i] + ";weighs 50+" + WORDS[i] + ";", 2);
            for (int row = 0; row < 3; row++) {
                Due.is("melts " + WORDS[i], x.cell(row, 4, 3), 500 + due[row][i]);
                Due.is("weighs " + WORDS[i], x.cell(row, 4, 4), 50 + due[row][i]);
            }
        }
        // what the voter is now, and what the mark was when it was left
        ThumbBallot y = asked();
        y.set(3, 1, 0);
        y.set(2, 1, 11);
        Due.reads(y, 0, "weighs 10*height-press+depth-90;", 1);
        Due.is("now", y.cell(0, 4, 4), 23);
    }

    private static void beside() {
        Due.says("beside: how many of the CELLS above, below, left, right of it have a MARK");
        int[][] cells = {{0, 0, 2}, {0, 11, 2}, {11, 0, 2}, {11, 11, 2}, {0, 5, 3}, {11, 5, 3}, {5, 0, 3}, {5, 11, 3},
            {5, 5, 4}, {5, 1, 4}, {5, 10, 4}, {1, 5, 4}, {10, 5, 4}};
        ThumbBallot x = new ThumbBallot();
        x.voter(0, 1, 11, 0);
        Due.reads(x, 0, "weighs beside;", 1);
        for (int i = 0; i < 144; i++) {
            x.press(0, i % 12);
        }
        for (int[] c : cells) {
            Due.is("full", x.cell(c[0], c[1], 4), c[2]);
        }
        int[][] around = {{6, 5}, {4, 5}, {5, 4}, {5, 6}};
        for (int i = 0; i < 4; i++) {
            x.lift(around[i][0], around[i][1]);
            Due.is("one fewer", x.cell(5, 5, 4), 3 - i);
        }
        // the end of a row is not beside the beginning of the next, nor across
        ThumbBallot y = new ThumbBallot();
        y.voter(0, 1, 11, 0);
        Due.reads(y, 0, "weighs beside;", 1);
        WaxTest.put(y, 0, 0, 11);
        WaxTest.put(y, 0, 1, 0);
        WaxTest.put(y, 0, 2, 1);
        Due.is("row 0's end", y.cell(0, 11, 4), 0);
        Due.is("row 1's beginning", y.cell(1, 0, 4), 0);
        Due.is("across", y.cell(2, 1, 4), 0);
    }
}
