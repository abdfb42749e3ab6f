import java.nio.ByteBuffer;
import java.nio.charset.StandardCharsets;
import java.util.Random;

/** All promises: long runs of random calls, each answer beside that of the plain model. */
public final class ModelTest {
    private static final int RUNS = 1500;
    private final Random r;
    private final ThumbBallot x = new ThumbBallot();
    private final Plain y = new Plain();
    private int calls = 0;
    private int wrong = 0;

    private ModelTest(long seed) {
        r = new Random(seed);
    }

    public static void main(String[] args) {
        int runs = args.length > 0 ? Integer.parseInt(args[0]) : RUNS;
        int wrong = 0;
        for (long seed = 1; seed <= runs && wrong < 20; seed++) {
            ModelTest t = new ModelTest(seed);
            t.run(seed);
            wrong += t.wrong;
        }
        System.out.println(wrong == 0 ? "all runs are as the plain model's" : wrong + " answers are not");
        if (wrong != 0) {
            System.exit(1);
        }
    }

    private void same(String call, int got, int want) {
        calls++;
        if (got != want) {
            wrong++;
            System.out.println("call " + calls + ": " + call + " answered " + got + ", due is " + want);
        }
    }

    private void same(String call, boolean got, boolean want) {
        same(call, got ? 1 : 0, want ? 1 : 0);
    }

    /** From low to high, now and then a little or far beyond. */
    private int in(int low, int high) {
        int k = r.nextInt(40);
        if (k == 0) {
            return high + 1;
        }
        if (k == 1) {
            return low - 1;
        }
        if (k == 2 && r.nextInt(4) == 0) {
            return new int[] {Integer.MIN_VALUE, Integer.MAX_VALUE, -2, 1000, -1000000}[r.nextInt(5)];
        }
        return low + r.nextInt(high - low + 1);
    }

    private void run(long seed) {
        int kind = (int) (seed % 4);
        for (int i = r.nextInt(21); i > 0; i--) {
            voter();
        }
        while (calls < 480 && wrong == 0) {
            int k = r.nextInt(100);
            if (kind == 1) {
                thoughtCall();
            } else if (kind == 2 && k < 25) {
                text();
            } else {
                call(k);
            }
        }
        if (wrong > 0) {
            System.out.println("in the run of seed " + seed);
        }
    }

    private void voter() {
        int a = in(0, 255);
        int b = in(-1, 1);
        int c = in(0, 11);
        int d = in(0, 9);
        same("voter", x.voter(a, b, c, d), y.voter(a, b, c, d));
    }

    private void call(int k) {
        int a = in(0, 19);
        int b = in(0, 11);
        if (k < 14) {
            same("press " + a + " " + b, x.press(a, b), y.press(a, b));
        } else if (k < 17) {
            int c = in(0, 11);
            same("lift", x.lift(c, b), y.lift(c, b));
        } else if (k < 20) {
            int c = in(0, 2);
            same("hand", x.hand(a, c), y.hand(a, c));
        } else if (k < 34) {
            int n = r.nextInt(3) == 0 ? in(1, 60) : in(1, 8);
            same("hours " + n, x.hours(n), y.hours(n));
        } else if (k < 40) {
            text();
        } else if (k < 44) {
            same("undo", x.undo(), y.undo());
        } else if (k < 46) {
            boolean taken = r.nextBoolean();
            same("image " + taken, x.image(taken), y.image(taken));
        } else if (k < 48) {
            int what = in(0, 4);
            int v = what == 0 ? in(0, 255) : in(-1, 11);
            same("set " + what, x.set(what, a, v), y.set(what, a, v));
        } else if (k < 49) {
            int v = r.nextInt();
            same("state", x.state(v), y.state(v));
        } else if (k < 50) {
            voter();
        } else if (k < 54) {
            thoughtCall();
        } else {
            ask(k, a, b);
        }
    }

    private void ask(int k, int a, int b) {
        if (k < 62) {
            int what = in(0, 7);
            same("of " + a + " " + what, x.of(a, what), y.of(a, what));
        } else if (k < 70) {
            int row = r.nextInt(3) == 0 ? in(0, 11) : in(0, 2);
            int what = in(0, 4);
            same("cell " + row + " " + b + " " + what, x.cell(row, b, what), y.cell(row, b, what));
        } else if (k < 76) {
            int i = r.nextBoolean() ? in(0, 150) : in(0, 20);
            int what = in(0, 4);
            same("book " + i + " " + what, x.book(i, what), y.book(i, what));
        } else if (k < 82) {
            int n = in(1, 60);
            int what = in(0, 3);
            same("goes " + n + " " + what, x.goes(n, what), y.goes(n, what));
        } else if (k < 90) {
            int what = in(0, 9);
            same("wax " + what, x.wax(what), y.wax(what));
        } else if (k < 92) {
            int whorl = in(0, 255);
            int d = in(-1, 8);
            same("whose", x.whose(whorl, d), y.whose(whorl, d));
        } else if (k < 94) {
            same("could", x.could(a), y.could(a));
        } else {
            int what = in(0, 13);
            same("look " + what, x.look(what), y.look(what));
        }
    }

    private void thoughtCall() {
        int a = in(0, 7);
        int b = in(0, 7);
        int what = in(0, 2);
        boolean clear = r.nextInt(60) == 0;
        switch (r.nextInt(24)) {
            case 0, 1 -> {
                int v = clear ? -1 : r.nextBoolean() ? in(0, 999) : in(0, 20);
                same("party " + v, x.party(v), y.party(v));
            }
            case 2, 3 -> {
                int i = in(0, 5);
                int n = in(1, 40);
                same("seats", x.seats(n, what, i), y.seats(n, what, i));
            }
            case 4, 5 -> {
                int v = clear ? -1 : in(0, 1);
                same("house", x.house(v), y.house(v));
            }
            case 6 -> {
                int n = in(1, 8);
                same("parishes " + n + " " + what, x.parishes(n, what), y.parishes(n, what));
            }
            case 7 -> {
                int v = clear ? -1 : in(0, 99);
                same("wish", x.wish(v), y.wish(v));
            }
            case 8 -> {
                int v = clear || r.nextInt(15) == 0 ? -1 : in(0, r.nextInt(9) + 1);
                same("name", x.name(v), y.name(v));
            }
            case 9, 10 -> {
                int n = in(0, 3);
                same("middle " + n, x.middle(n), y.middle(n));
            }
            case 11 -> {
                int v = clear ? -1 : in(1, 50);
                same("candle", x.candle(v), y.candle(v));
            }
            case 12 -> {
                int n = in(0, 400);
                same("candles " + n + " " + what, x.candles(n, what), y.candles(n, what));
            }
            case 13 -> {
                int weight = clear ? -1 : in(1, 50);
                int bears = in(0, 200);
                same("door", x.door(weight, bears), y.door(weight, bears));
            }
            case 14 -> same("stack", x.stack(), y.stack());
            case 15 -> {
                int v = clear ? -1 : in(0, 30);
                same("stands", x.stands(v), y.stands(v));
            }
            case 16 -> {
                int h = in(0, 40);
                same("lantern", x.lantern(h, what), y.lantern(h, what));
            }
            case 17 -> {
                int v = clear ? -1 : a;
                same("bill", x.bill(v, b), y.bill(v, b));
            }
            case 18 -> same("bills " + what, x.bills(what), y.bills(what));
            case 19 -> {
                int v = clear ? -1 : a;
                same("before", x.before(v, b), y.before(v, b));
            }
            case 20 -> {
                if (y.w.told.get(8).size() > 3 || r.nextInt(20) == 0) {
                    same("order", x.order(), y.order());
                }
            }
            default -> {
                int cells = cells();
                same("game " + cells + " " + what, x.game(cells, what), y.game(cells, what));
            }
        }
    }

    private int cells() {
        if (r.nextInt(20) == 0) {
            return r.nextInt();
        }
        char[] s = "000000000".toCharArray();
        int n = r.nextInt(10);
        for (int i = 0; i < n; i++) {
            int at = r.nextInt(9);
            while (s[at] != '0') {
                at = (at + 1) % 9;
            }
            s[at] = i % 2 == 0 ? '1' : '2';
        }
        if (r.nextInt(15) == 0) {
            s[r.nextInt(9)] = (char) ('0' + r.nextInt(4));
        }
        return Integer.parseInt(new String(s));
    }

    // ---- texts

    private void text() {
        int k = in(0, 3);
        StringBuilder s = new StringBuilder();
        int lines = r.nextInt(12) == 0 ? 17 : r.nextInt(7);
        for (int i = 0; i < lines; i++) {
            s.append(line(k)).append(r.nextInt(6) == 0 ? " \n" : "");
        }
        if (r.nextInt(4) == 0 && s.length() > 0) {
            spoil(s);
        }
        if (s.length() > 400) {
            s.setLength(r.nextBoolean() ? 400 : s.lastIndexOf(";", 399) + 1);
        }
        byte[] bytes = s.toString().getBytes(StandardCharsets.ISO_8859_1);
        int size = (bytes.length + 19) / 20 * 20;
        ByteBuffer b = ByteBuffer.wrap(java.util.Arrays.copyOf(bytes, size));
        for (int i = 0; i < size; i += 20) {
            int p = b.getInt();
            int q = b.getInt();
            int t = b.getInt();
            int u = b.getInt();
            int v = b.getInt();
            same("feed", x.feed(p, q, t, u, v), y.feed(p, q, t, u, v));
        }
        int n = r.nextInt(60) == 0 ? in(0, 400) : bytes.length;
        same("end " + n, x.end(n), y.end(n));
        same("text " + k + " '" + s + "'", x.text(k), y.text(k));
        same("fault 0 of " + k + " '" + s + "'", x.fault(0), y.fault(0));
        same("fault 1 of " + k + " '" + s + "'", x.fault(1), y.fault(1));
    }

    private void spoil(StringBuilder s) {
        int at = r.nextInt(s.length());
        switch (r.nextInt(6)) {
            case 0 -> s.setCharAt(at, (char) r.nextInt(256));
            case 1 -> s.deleteCharAt(at);
            case 2 -> s.insert(at, " ;+-*/()<=>.,9aZ\n\t0".charAt(r.nextInt(19)));
            case 3 -> s.setLength(at);
            case 4 -> s.insert(at, new String[] {"when ", " not ", "(((", " 12345 ", " or ", " mind"}[r.nextInt(6)]);
            default -> s.setCharAt(at, "0123456789abcdefghijklmnopqrstuvwxyz();+"
                    .charAt(r.nextInt(40)));
        }
    }

    private int someVoter() {
        int n = Math.max(1, y.w.people.size());
        return r.nextInt(60) == 0 ? in(0, 20) & 31 : r.nextInt(n);
    }

    private int upTo(int most) {
        return r.nextInt(150) == 0 ? most + 1 : r.nextInt(most + 1);
    }

    private String line(int k) {
        switch (k) {
            case 1:
                return "voter " + someVoter() + " at " + upTo(11) + " to " + upTo(11) + ";";
            case 2:
                int near = r.nextInt(3) == 0 ? upTo(999) : y.w.day + r.nextInt(3);
                String day = "on " + near + " ";
                int what = r.nextInt(3);
                if (what == 0) {
                    return day + "heat " + upTo(9) + " at " + upTo(11) + ";";
                }
                if (what == 1) {
                    return day + "putty at " + upTo(11) + " " + upTo(11) + " " + r.nextInt(3) + ";";
                }
                return day + "mind " + someVoter() + new String[] {" for;", " against;", " none;"}[r.nextInt(3)];
            case 3:
                return "voter " + someVoter() + " twin " + someVoter() + ";";
            default:
                String word = new String[] {"comes ", "melts ", "weighs "}[r.nextInt(3)];
                return word + e() + (r.nextBoolean() ? " when " + b(0) : "") + ";";
        }
    }

    private String u() {
        if (r.nextInt(3) == 0) {
            int n = new int[] {10, 100, 1000, 10000}[r.nextInt(4)];
            return "" + r.nextInt(n);
        }
        return new String[] {"mind", "press", "height", "depth", "heat", "hour", "row", "beside", "came",
            "day"}[r.nextInt(10)];
    }

    private String e() {
        StringBuilder s = new StringBuilder(u());
        while (r.nextInt(5) < 2) {
            switch (r.nextInt(5)) {
                case 0 -> s.append("+").append(u());
                case 1 -> s.append(" - ").append(u());
                case 2, 3 -> s.append("*").append(u());
                default -> s.append(" /").append(r.nextInt(30) == 0 ? 0 : 1 + r.nextInt(12));
            }
        }
        return s.toString();
    }

    private String b(int open) {
        StringBuilder s = new StringBuilder(c(open));
        while (r.nextInt(4) == 0) {
            s.append(r.nextBoolean() ? " and " : " or ").append(c(open));
        }
        return s.toString();
    }

    private String c(int open) {
        int k = r.nextInt(open > 9 ? 3 : 6);
        if (k < 3) {
            return e() + "<=>".charAt(k) + e();
        }
        return k == 3 ? "not " + c(open + 1) : "(" + b(open + 1) + ")";
    }
}
