import java.util.ArrayDeque;
import java.util.ArrayList;
import java.util.Collections;
import java.util.HashSet;
import java.util.List;
import java.util.Set;
import java.util.function.ToIntFunction;
import java.util.regex.Matcher;
import java.util.regex.Pattern;

/** The document once more, written another way (trees, lists, copies, plain search), to compare with. */
final class Plain {
    static final int NONE = -1;

    record Mark(int voter, int way, int depth) {
    }

    record Line(int day, int hour, int what, int who, int much) {
    }

    static final class Person {
        int whorl;
        int mind;
        int height;
        int press;
        int hand;
        int came;

        Person copy() {
            Person p = new Person();
            p.whorl = whorl;
            p.mind = mind;
            p.height = height;
            p.press = press;
            p.hand = hand;
            p.came = came;
            return p;
        }
    }

    /** What a word of the law is asked about. */
    record Asked(int mind, int press, int height, int depth, int heat, int hour, int row, int beside, int came,
            int day) {
    }

    record LawLine(String word, ToIntFunction<Asked> e, ToIntFunction<Asked> b) {
    }

    static final class World {
        List<Person> people = new ArrayList<>();
        Mark[][] wax = new Mark[12][12];
        int heat;
        int hour;
        int day;
        int passed;
        int failed;
        int state;
        List<Line> book = new ArrayList<>();
        List<LawLine> law = new ArrayList<>();
        List<int[]> ways = new ArrayList<>();
        List<int[]> sky = new ArrayList<>();
        List<int[]> twins = new ArrayList<>();
        List<List<int[]>> told = new ArrayList<>();
        boolean thinking;

        World() {
            for (int i = 0; i < 9; i++) {
                told.add(new ArrayList<>());
            }
        }

        World copy() {
            World w = new World();
            for (Person p : people) {
                w.people.add(p.copy());
            }
            for (int i = 0; i < 12; i++) {
                w.wax[i] = wax[i].clone();
            }
            w.heat = heat;
            w.hour = hour;
            w.day = day;
            w.passed = passed;
            w.failed = failed;
            w.state = state;
            w.book = new ArrayList<>(book);
            w.law = law;
            w.ways = ways;
            w.sky = sky;
            w.twins = twins;
            for (int i = 0; i < 9; i++) {
                w.told.set(i, new ArrayList<>(told.get(i)));
            }
            return w;
        }
    }

    World w = new World();
    World image;
    ArrayDeque<World> undo = new ArrayDeque<>();
    StringBuilder tape = new StringBuilder();
    int fault = 0;
    int place = NONE;

    // ---- what is told

    int state(int v) {
        int was = w.state;
        w.state = v;
        undo.clear();
        return was;
    }

    int voter(int whorl, int mind, int height, int press) {
        if (whorl != (whorl & 255) || Math.abs((long) mind) > 1 || height < 0 || height > 11 || press < 0
                || press > 9 || w.people.size() == 20) {
            return NONE;
        }
        Person p = new Person();
        p.whorl = whorl;
        p.mind = mind;
        p.height = height;
        p.press = press;
        w.people.add(p);
        undo.clear();
        return w.people.size() - 1;
    }

    boolean there(int voter) {
        return voter >= 0 && voter < w.people.size();
    }

    boolean set(int what, int who, int v) {
        if (what == 4 && v >= 0 && v <= 9) {
            w.heat = v;
        } else if (what == 0 && there(who) && v >= 0 && v <= 255) {
            w.people.get(who).whorl = v;
        } else if (what == 1 && there(who) && v >= -1 && v <= 1) {
            w.people.get(who).mind = v;
        } else if (what == 2 && there(who) && v >= 0 && v <= 11) {
            w.people.get(who).height = v;
        } else if (what == 3 && there(who) && v >= 0 && v <= 9) {
            w.people.get(who).press = v;
        } else {
            return false;
        }
        undo.clear();
        return true;
    }

    void keep() {
        undo.push(w.copy());
        if (undo.size() > 6) {
            undo.removeLast();
        }
    }

    static boolean onWax(int row, int column) {
        return row >= 0 && row < 12 && column >= 0 && column < 12;
    }

    int press(int voter, int column) {
        if (!there(voter) || !onWax(0, column) || w.people.get(voter).hand != 0 || w.people.get(voter).mind == 0) {
            return NONE;
        }
        keep();
        return thumb(w, voter, column);
    }

    boolean lift(int row, int column) {
        if (!onWax(row, column) || w.wax[row][column] == null) {
            return false;
        }
        keep();
        gone(w, row, column, 3);
        return true;
    }

    boolean hand(int voter, int v) {
        if (!there(voter) || v < 0 || v > 2 || w.people.get(voter).hand == v) {
            return false;
        }
        keep();
        w.people.get(voter).hand = v;
        return true;
    }

    int hours(int n) {
        if (n < 1 || n > 60 || w.day + (w.hour + n) / 12 > 9990) {
            return NONE;
        }
        int left = 0;
        while (n-- > 0) {
            keep();
            left += hour(w);
        }
        return left;
    }

    boolean undo() {
        if (undo.isEmpty()) {
            return false;
        }
        World back = undo.pop();
        back.law = w.law;
        back.twins = w.twins;
        back.told = w.told;
        w = back;
        return true;
    }

    boolean image(boolean taken) {
        if (taken) {
            image = w.copy();
        } else if (image != null) {
            w = image.copy();
            undo.clear();
        }
        return image != null;
    }

    // ---- an hour

    static void note(World w, int what, int who, int much) {
        if (w.book.size() < 150) {
            w.book.add(new Line(w.day, w.hour, what, who, much));
        }
    }

    static void gone(World w, int row, int column, int what) {
        note(w, what, w.wax[row][column].voter, 12 * row + column);
        w.wax[row][column] = null;
    }

    static int thumb(World w, int voter, int column) {
        Person p = w.people.get(voter);
        int row = p.height;
        for (int r = p.height; r >= 0; r--) {
            if (w.wax[r][column] == null) {
                row = r;
            }
        }
        note(w, w.wax[row][column] == null ? 0 : 1, voter, 12 * row + column);
        w.wax[row][column] = new Mark(voter, p.mind > 0 ? 1 : -1, Math.min(9, 1 + p.press / 2));
        p.came++;
        return 12 * row + column;
    }

    static boolean so(World w, int chance) {
        if (w.thinking) {
            return chance >= 500;
        }
        if (chance <= 0) {
            return false;
        }
        w.state = (int) (1664525L * w.state + 1013904223L);
        long high = (w.state & 0xffffffffL) >> 8;
        return high % 1000 < chance;
    }

    static int hour(World w) {
        int left = 0;
        for (int[] s : w.sky) {
            if (s[0] != w.day) {
                continue;
            }
            if (s[1] == 2 && w.hour == 0) {
                w.people.get(s[2]).mind = s[3];
            } else if (s[1] == 0 && w.hour == s[3]) {
                w.heat = s[2];
            } else if (s[1] == 1 && w.hour == s[2] && w.wax[s[4]][s[3]] != null) {
                gone(w, s[4], s[3], 3);
            }
        }
        for (int[] s : w.ways) {
            Person p = w.people.get(s[0]);
            if (s[1] == w.hour && p.hand == 0 && p.mind != 0 && so(w, comes(w, s[0]))) {
                thumb(w, s[0], s[2]);
                left++;
            }
        }
        for (int row = 0; row < 12; row++) {
            for (int column = 0; column < 12; column++) {
                Mark m = w.wax[row][column];
                if (m != null && so(w, melts(w, row, column))) {
                    if (m.depth == 1) {
                        gone(w, row, column, 2);
                    } else {
                        w.wax[row][column] = new Mark(m.voter, m.way, m.depth - 1);
                    }
                }
            }
        }
        if (w.hour != 11) {
            w.hour++;
            return left;
        }
        int sum = sum(w);
        note(w, 4, NONE, sum);
        if (sum > 0) {
            w.passed++;
        } else {
            w.failed++;
        }
        w.wax = new Mark[12][12];
        w.hour = 0;
        w.day++;
        return left;
    }

    static int sum(World w) {
        int sum = 0;
        for (int row = 0; row < 12; row++) {
            for (int column = 0; column < 12; column++) {
                if (w.wax[row][column] != null) {
                    sum += w.wax[row][column].way * weighs(w, row, column);
                }
            }
        }
        return sum;
    }

    static int told(World w, String word, Asked a, int otherwise, int most) {
        int v = otherwise;
        for (LawLine line : w.law) {
            if (line.word.equals(word) && line.b.applyAsInt(a) != 0) {
                v = line.e.applyAsInt(a);
                break;
            }
        }
        return v < 0 ? 0 : v > most ? most : v;
    }

    static int comes(World w, int voter) {
        Person p = w.people.get(voter);
        Asked a = new Asked(p.mind, p.press, p.height, 0, w.heat, w.hour, 0, 0, p.came, w.day);
        return told(w, "comes", a, 500 + 50 * p.press, 1000);
    }

    static boolean marked(World w, int row, int column) {
        return onWax(row, column) && w.wax[row][column] != null;
    }

    static Asked askedOf(World w, int row, int column) {
        Mark m = w.wax[row][column];
        Person p = w.people.get(m.voter);
        int beside = 0;
        for (int[] d : SIDES) {
            if (marked(w, row + d[0], column + d[1])) {
                beside++;
            }
        }
        return new Asked(m.way, p.press, p.height, m.depth, w.heat, w.hour, row, beside, p.came, w.day);
    }

    static final int[][] SIDES = {{0, 1}, {1, 0}, {0, -1}, {-1, 0}};

    static int melts(World w, int row, int column) {
        return told(w, "melts", askedOf(w, row, column), 100 * w.heat - 50 * w.wax[row][column].depth, 1000);
    }

    static int weighs(World w, int row, int column) {
        return told(w, "weighs", askedOf(w, row, column), w.wax[row][column].depth, 99);
    }

    // ---- texts

    int feed(int... five) {
        if (tape.length() + 20 > 400) {
            return NONE;
        }
        for (int v : five) {
            for (int i = 3; i >= 0; i--) {
                tape.append((char) (v >>> 8 * i & 255));
            }
        }
        return tape.length();
    }

    boolean end(int n) {
        if (n < 0 || n > tape.length()) {
            return false;
        }
        tape.setLength(n);
        return true;
    }

    static final class Fault extends RuntimeException {
        private static final long serialVersionUID = 1;
        final int kind;
        final int place;

        Fault(int kind, int place) {
            this.kind = kind;
            this.place = place;
        }
    }

    record Token(String s, int place) {
    }

    private List<Token> tokens;
    private int at;

    static final Pattern TOKEN = Pattern.compile("[a-zA-Z]+|[0-9]+|[^ \n]", Pattern.DOTALL);

    int text(int k) {
        String s = tape.toString();
        tape.setLength(0);
        fault = 0;
        place = NONE;
        if (k < 0 || k > 3) {
            return NONE;
        }
        tokens = new ArrayList<>();
        Matcher m = TOKEN.matcher(s);
        while (m.find()) {
            tokens.add(new Token(m.group(), m.start()));
        }
        tokens.add(new Token("", s.length()));
        at = 0;
        try {
            return k == 0 ? readLaw() : readLines(k);
        } catch (Fault f) {
            fault = f.kind;
            place = f.place;
            return NONE;
        }
    }

    String peek() {
        return tokens.get(at).s;
    }

    Fault fault(int kind, int back) {
        return new Fault(kind, tokens.get(at - back).place);
    }

    void need(String s) {
        if (!peek().equals(s)) {
            throw fault(1, 0);
        }
        at++;
    }

    int number(int most) {
        if (!peek().matches("[0-9]{1,4}")) {
            throw fault(1, 0);
        }
        int v = Integer.parseInt(peek());
        if (v > most) {
            throw fault(2, 0);
        }
        at++;
        return v;
    }

    int readLines(int k) {
        List<int[]> lines = new ArrayList<>();
        int last = w.people.size() - 1;
        while (!peek().isEmpty()) {
            need(k == 2 ? "on" : "voter");
            if (lines.size() == 16) {
                throw fault(3, 1);
            }
            if (k == 1) {
                int v = number(last);
                need("at");
                int h = number(11);
                need("to");
                lines.add(new int[] {v, h, number(11)});
            } else if (k == 3) {
                int v = number(last);
                need("twin");
                int o = number(last);
                if (v == o) {
                    throw fault(2, 1);
                }
                lines.add(new int[] {v, o});
            } else {
                lines.add(skyLine(last));
            }
            need(";");
        }
        if (k == 1) {
            w.ways = lines;
        } else if (k == 2) {
            w.sky = lines;
        } else {
            w.twins = lines;
        }
        if (k != 3) {
            undo.clear();
        }
        return lines.size();
    }

    int[] skyLine(int last) {
        int day = number(999);
        if (peek().equals("heat")) {
            at++;
            int n = number(9);
            need("at");
            return new int[] {day, 0, n, number(11)};
        }
        if (peek().equals("putty")) {
            at++;
            need("at");
            return new int[] {day, 1, number(11), number(11), number(11)};
        }
        need("mind");
        int v = number(last);
        int mind = List.of("against", "none", "for").indexOf(peek());
        if (mind < 0) {
            throw fault(1, 0);
        }
        at++;
        return new int[] {day, 2, v, mind - 1};
    }

    int readLaw() {
        List<LawLine> lines = new ArrayList<>();
        while (!peek().isEmpty()) {
            String word = peek();
            if (!List.of("comes", "melts", "weighs").contains(word)) {
                throw fault(1, 0);
            }
            if (lines.size() == 16) {
                throw fault(3, 0);
            }
            at++;
            ToIntFunction<Asked> e = e();
            ToIntFunction<Asked> b = a -> 1;
            if (peek().equals("when")) {
                at++;
                b = b(0);
            }
            need(";");
            lines.add(new LawLine(word, e, b));
        }
        w.law = lines;
        return lines.size();
    }

    ToIntFunction<Asked> b(int open) {
        ToIntFunction<Asked> one = a(open);
        while (peek().equals("or")) {
            at++;
            ToIntFunction<Asked> left = one;
            ToIntFunction<Asked> right = a(open);
            one = x -> left.applyAsInt(x) != 0 || right.applyAsInt(x) != 0 ? 1 : 0;
        }
        return one;
    }

    ToIntFunction<Asked> a(int open) {
        ToIntFunction<Asked> one = c(open);
        while (peek().equals("and")) {
            at++;
            ToIntFunction<Asked> left = one;
            ToIntFunction<Asked> right = c(open);
            one = x -> left.applyAsInt(x) != 0 && right.applyAsInt(x) != 0 ? 1 : 0;
        }
        return one;
    }

    ToIntFunction<Asked> c(int open) {
        if (peek().equals("not") || peek().equals("(")) {
            if (open == 8) {
                throw fault(3, 0);
            }
            boolean not = peek().equals("not");
            at++;
            if (not) {
                ToIntFunction<Asked> c = c(open + 1);
                return x -> c.applyAsInt(x) == 0 ? 1 : 0;
            }
            ToIntFunction<Asked> b = b(open + 1);
            need(")");
            return b;
        }
        ToIntFunction<Asked> left = e();
        String op = peek();
        if (!List.of("<", "=", ">").contains(op)) {
            throw fault(1, 0);
        }
        at++;
        ToIntFunction<Asked> right = e();
        return x -> {
            int d = Integer.compare(left.applyAsInt(x), right.applyAsInt(x));
            return op.equals("<") && d < 0 || op.equals("=") && d == 0 || op.equals(">") && d > 0 ? 1 : 0;
        };
    }

    ToIntFunction<Asked> e() {
        ToIntFunction<Asked> one = t();
        while (peek().equals("+") || peek().equals("-")) {
            boolean plus = peek().equals("+");
            at++;
            ToIntFunction<Asked> left = one;
            ToIntFunction<Asked> right = t();
            one = x -> left.applyAsInt(x) + (plus ? 1 : -1) * right.applyAsInt(x);
        }
        return one;
    }

    ToIntFunction<Asked> t() {
        ToIntFunction<Asked> one = u();
        while (peek().equals("*") || peek().equals("/")) {
            boolean times = peek().equals("*");
            at++;
            ToIntFunction<Asked> left = one;
            if (times) {
                ToIntFunction<Asked> right = u();
                one = x -> left.applyAsInt(x) * right.applyAsInt(x);
            } else {
                int by = number(9999);
                if (by == 0) {
                    throw fault(2, 1);
                }
                one = x -> left.applyAsInt(x) / by;
            }
        }
        return one;
    }

    ToIntFunction<Asked> u() {
        String s = peek();
        if (s.matches("[0-9]{1,4}")) {
            int v = number(9999);
            return x -> v;
        }
        ToIntFunction<Asked> u = switch (s) {
            case "mind" -> Asked::mind;
            case "press" -> Asked::press;
            case "height" -> Asked::height;
            case "depth" -> Asked::depth;
            case "heat" -> Asked::heat;
            case "hour" -> Asked::hour;
            case "row" -> Asked::row;
            case "beside" -> Asked::beside;
            case "came" -> Asked::came;
            case "day" -> Asked::day;
            default -> throw fault(1, 0);
        };
        at++;
        return u;
    }

    int fault(int what) {
        return what == 0 ? fault : what == 1 ? place : NONE;
    }

    // ---- what is asked

    int of(int voter, int what) {
        if (!there(voter)) {
            return -2;
        }
        Person p = w.people.get(voter);
        return switch (what) {
            case 0 -> p.whorl;
            case 1 -> p.mind;
            case 2 -> p.height;
            case 3 -> p.press;
            case 4 -> p.hand;
            case 5 -> p.came;
            case 6 -> comes(w, voter);
            case 7 -> bits(twins(voter));
            default -> -2;
        };
    }

    static int bits(Set<Integer> set) {
        int bits = 0;
        for (int i : set) {
            bits += 1 << i;
        }
        return bits;
    }

    Set<Integer> twins(int voter) {
        Set<Integer> set = new HashSet<>();
        for (int[] t : w.twins) {
            if (t[0] == voter) {
                set.add(t[1]);
            } else if (t[1] == voter) {
                set.add(t[0]);
            }
        }
        return set;
    }

    int could(int voter) {
        if (!there(voter)) {
            return NONE;
        }
        Set<Integer> set = new HashSet<>();
        reach(voter, set);
        return bits(set);
    }

    private void reach(int voter, Set<Integer> set) {
        if (set.add(voter)) {
            for (int t : twins(voter)) {
                reach(t, set);
            }
        }
    }

    int cell(int row, int column, int what) {
        if (!onWax(row, column) || what < 0 || what > 4) {
            return -2;
        }
        Mark m = w.wax[row][column];
        return switch (what) {
            case 0 -> m == null ? NONE : m.voter;
            case 1 -> m == null ? 0 : m.way;
            case 2 -> m == null ? 0 : m.depth;
            case 3 -> m == null ? NONE : melts(w, row, column);
            default -> m == null ? NONE : weighs(w, row, column);
        };
    }

    int book(int i, int what) {
        if (i < 0 || i >= w.book.size()) {
            return -10000;
        }
        Line l = w.book.get(i);
        return switch (what) {
            case 0 -> l.day;
            case 1 -> l.hour;
            case 2 -> l.what;
            case 3 -> l.who;
            case 4 -> l.much;
            default -> -10000;
        };
    }

    int goes(int n, int what) {
        if (n < 1 || n > 60 || what < 0 || what > 3) {
            return -100000;
        }
        World t = w.copy();
        t.thinking = true;
        for (int i = 0; i < n; i++) {
            hour(t);
        }
        if (what == 0) {
            return t.passed;
        }
        if (what == 2) {
            return sum(t);
        }
        return what == 1 ? marks(t) : t.people.stream().mapToInt(p -> p.came).sum();
    }

    static int marks(World w) {
        int n = 0;
        for (Mark[] row : w.wax) {
            for (Mark m : row) {
                n += m == null ? 0 : 1;
            }
        }
        return n;
    }

    int wax(int what) {
        return switch (what) {
            case 0 -> sum(w);
            case 1 -> turned();
            case 2 -> pieces(true).size();
            case 3 -> pieces(true).stream().mapToInt(Set::size).max().orElse(0);
            case 4 -> (int) pieces(false).stream().filter(p -> p.stream().allMatch(
                    c -> c / 12 > 0 && c / 12 < 11 && c % 12 > 0 && c % 12 < 11)).count();
            case 5 -> unlike() == 0 ? 1 : 0;
            case 6 -> unlike();
            case 7, 8, 9 -> square()[what - 7];
            default -> -100000;
        };
    }

    int turned() {
        List<Integer> down = new ArrayList<>();
        for (int c = 0; c < 144; c++) {
            if (w.wax[c / 12][c % 12] != null && w.wax[c / 12][c % 12].way < 0) {
                down.add(weighs(w, c / 12, c % 12));
            }
        }
        down.sort(Collections.reverseOrder());
        int sum = sum(w);
        for (int n = 0; n <= down.size(); n++) {
            if (sum > 0) {
                return n;
            }
            sum += n < down.size() ? down.get(n) : 0;
        }
        return NONE;
    }

    List<Set<Integer>> pieces(boolean marked) {
        List<Set<Integer>> all = new ArrayList<>();
        Set<Integer> seen = new HashSet<>();
        for (int c = 0; c < 144; c++) {
            if (marked(w, c / 12, c % 12) == marked && !seen.contains(c)) {
                Set<Integer> piece = new HashSet<>();
                fill(c / 12, c % 12, marked, piece);
                seen.addAll(piece);
                all.add(piece);
            }
        }
        return all;
    }

    private void fill(int row, int column, boolean marked, Set<Integer> piece) {
        if (onWax(row, column) && marked(w, row, column) == marked && piece.add(12 * row + column)) {
            for (int[] d : SIDES) {
                fill(row + d[0], column + d[1], marked, piece);
            }
        }
    }

    int unlike() {
        int n = 0;
        for (int c = 0; c < 144; c++) {
            if (c % 12 < 6 && cell(c / 12, c % 12, 1) != cell(c / 12, 11 - c % 12, 1)) {
                n++;
            }
        }
        return n;
    }

    int[] square() {
        for (int side = 12; side > 0; side--) {
            for (int row = 0; row + side <= 12; row++) {
                for (int column = 0; column + side <= 12; column++) {
                    boolean bare = true;
                    for (int i = 0; i < side * side; i++) {
                        bare &= !marked(w, row + i / side, column + i % side);
                    }
                    if (bare) {
                        return new int[] {side, row, column};
                    }
                }
            }
        }
        return new int[] {0, NONE, NONE};
    }

    int whose(int whorl, int d) {
        if (whorl < 0 || whorl > 255 || d < -1 || d > 8) {
            return NONE;
        }
        int set = 0;
        for (int far = d < 0 ? 0 : d; far <= (d < 0 ? 8 : d); far++) {
            for (int i = 0; i < w.people.size(); i++) {
                if (Integer.bitCount(w.people.get(i).whorl ^ whorl) <= far) {
                    if (d < 0) {
                        return i;
                    }
                    set |= 1 << i;
                }
            }
        }
        return d < 0 ? NONE : set;
    }

    int look(int what) {
        return switch (what) {
            case 0 -> w.people.size();
            case 1 -> marks(w);
            case 2 -> w.heat;
            case 3 -> w.hour;
            case 4 -> w.day;
            case 5 -> w.passed;
            case 6 -> w.failed;
            case 7 -> w.book.size();
            case 8 -> w.state;
            case 9 -> w.law.size();
            case 10 -> w.ways.size();
            case 11 -> w.sky.size();
            case 12 -> w.twins.size();
            case 13 -> undo.size();
            default -> NONE;
        };
    }

    // ---- what is told for thought: lists 0 parties, 1 houses, 2 wishes, 3 names, 4 ends, 5 doors,
    // 6 heights, 7 couples, 8 pairs

    static final int[] MOST = {6, 16, 15, 15, 8, 8, 12, 12, 12};

    int tell(int list, boolean can, int... v) {
        List<int[]> l = w.told.get(list);
        if (v[0] == NONE) {
            l.clear();
            return 0;
        }
        if (!can || l.size() == MOST[list]) {
            return NONE;
        }
        l.add(v);
        return l.size();
    }

    List<Integer> firsts(int list) {
        List<Integer> all = new ArrayList<>();
        for (int[] v : w.told.get(list)) {
            all.add(v[0]);
        }
        return all;
    }

    int party(int v) {
        return tell(0, v >= 0 && v < 1000, v);
    }

    int house(int v) {
        return tell(1, v >= 0 && v < 2, v);
    }

    int wish(int v) {
        return tell(2, v >= 0 && v < 100, v);
    }

    int name(int v) {
        return tell(3, v >= 0 && v < 10, v);
    }

    int candle(int v) {
        return tell(4, v > 0 && v < 51, v);
    }

    int door(int weight, int bears) {
        return tell(5, weight > 0 && weight < 51 && bears >= 0 && bears < 201, weight, bears);
    }

    int stands(int v) {
        return tell(6, v >= 0 && v < 31, v);
    }

    int bill(int a, int b) {
        return tell(7, a >= 0 && a < 8 && b >= 0 && b < 8 && a != b, a, b);
    }

    int before(int a, int b) {
        return tell(8, a >= 0 && a < 8 && b >= 0 && b < 8 && a != b, a, b);
    }

    int seats(int n, int how, int i) {
        List<Integer> votes = firsts(0);
        if (n < 1 || n > 40 || how < 0 || how > 1 || i < 0 || i >= votes.size()) {
            return NONE;
        }
        int[] seats = new int[votes.size()];
        for (int s = 0; s < n; s++) {
            int[] shares = new int[votes.size()];
            for (int p = 0; p < shares.length; p++) {
                shares[p] = votes.get(p) / (how == 0 ? seats[p] + 1 : 2 * seats[p] + 1);
            }
            int most = java.util.Arrays.stream(shares).max().getAsInt();
            for (int p = 0; p < shares.length && most > 0; p++) {
                if (shares[p] == most) {
                    seats[p]++;
                    break;
                }
            }
        }
        return seats[i];
    }

    int parishes(int k, int what) {
        List<Integer> h = firsts(1);
        if (k < 1 || k > 8 || k > h.size() || what < 0 || what > 1) {
            return NONE;
        }
        return cut(h, k, what == 0);
    }

    /** All cuts, parish by parish. */
    private static int cut(List<Integer> h, int k, boolean most) {
        if (k == 1) {
            int sum = h.stream().mapToInt(v -> v).sum();
            return 2 * sum > h.size() ? 1 : 0;
        }
        int best = most ? -1 : 99;
        for (int to = 1; h.size() - to >= k - 1; to++) {
            int v = cut(h.subList(0, to), 1, most) + cut(h.subList(to, h.size()), k - 1, most);
            best = most ? Math.max(best, v) : Math.min(best, v);
        }
        return best;
    }

    int middle(int what) {
        List<Integer> wishes = firsts(2);
        Collections.sort(wishes);
        int mid = wishes.isEmpty() ? NONE : wishes.get((wishes.size() - 1) / 2);
        List<Integer> names = firsts(3);
        int times = 0;
        int half = NONE;
        for (int n : names) {
            int f = Collections.frequency(names, n);
            times = Math.max(times, f);
            half = f * 2 > names.size() ? n : half;
        }
        return switch (what) {
            case 0 -> mid;
            case 1 -> wishes.stream().mapToInt(v -> Math.abs(v - mid)).sum();
            case 2 -> half;
            case 3 -> times;
            default -> NONE;
        };
    }

    int candles(int n, int what) {
        if (n < 0 || n > 400 || what < 0 || what > 1) {
            return NONE;
        }
        List<Integer> ends = firsts(4);
        java.util.TreeSet<Integer> sums = new java.util.TreeSet<>();
        for (int set = 0; set < 1 << ends.size(); set++) {
            int sum = 0;
            for (int i = 0; i < ends.size(); i++) {
                sum += (set >> i & 1) * ends.get(i);
            }
            if (sum <= n) {
                sums.add(sum);
            }
        }
        return what == 0 ? sums.size() : sums.last();
    }

    int stack() {
        return pile(w.told.get(5), 0, 0);
    }

    /** Doors put below what stands already. */
    private static int pile(List<int[]> doors, int used, int above) {
        int best = Integer.bitCount(used);
        for (int i = 0; i < doors.size(); i++) {
            if ((used >> i & 1) == 0 && doors.get(i)[1] >= above) {
                best = Math.max(best, pile(doors, used | 1 << i, above + doors.get(i)[0]));
            }
        }
        return best;
    }

    int lantern(int h, int what) {
        if (h < 0 || h > 40 || what < 0 || what > 1) {
            return NONE;
        }
        List<Integer> heights = firsts(6);
        int n = 0;
        int last = NONE;
        for (int i = 0; i < heights.size(); i++) {
            int here = heights.get(i);
            if (here <= h && heights.subList(0, i).stream().allMatch(o -> o < here)) {
                n++;
                last = i;
            }
        }
        return what == 0 ? n : last;
    }

    int bills(int what) {
        int best = -1;
        int least = 0;
        int ways = 0;
        for (int set = 255; set >= 0; set--) {
            int s = set;
            if (w.told.get(7).stream().noneMatch(c -> (s >> c[0] & 1) + (s >> c[1] & 1) == 2)) {
                ways++;
                if (Integer.bitCount(set) >= best) {
                    best = Integer.bitCount(set);
                    least = set;
                }
            }
        }
        return what == 0 ? best : what == 1 ? least : what == 2 ? ways : NONE;
    }

    int order() {
        return rows(new ArrayList<>());
    }

    private int rows(List<Integer> row) {
        if (row.size() == 8) {
            return 1;
        }
        int n = 0;
        for (int i = 0; i < 8; i++) {
            int b = i;
            if (!row.contains(i) && w.told.get(8).stream().allMatch(p -> p[1] != b || row.contains(p[0]))) {
                row.add(i);
                n += rows(row);
                row.remove(row.size() - 1);
            }
        }
        return n;
    }

    int game(int cells, int what) {
        if (cells < 0 || what < 0 || what > 1) {
            return -10;
        }
        String s = String.format("%09d", cells);
        if (!s.matches("[012]{9}")) {
            return -10;
        }
        long ups = s.chars().filter(c -> c == '1').count();
        long downs = s.chars().filter(c -> c == '2').count();
        if (ups - downs != 0 && ups - downs != 1 || three(s, '1') && three(s, '2')) {
            return -10;
        }
        int v = play(s, ups == downs ? '1' : '2');
        if (what == 0) {
            return v;
        }
        if (!three(s, '1') && !three(s, '2')) {
            for (int i = 0; i < 9; i++) {
                if (s.charAt(i) == '0' && -play(put(s, i, ups == downs ? '1' : '2'), ups == downs ? '2' : '1') == v) {
                    return i;
                }
            }
        }
        return NONE;
    }

    private static String put(String s, int i, char c) {
        return s.substring(0, i) + c + s.substring(i + 1);
    }

    static boolean three(String s, char c) {
        String p = "" + c + c + c;
        return s.matches("(...)*" + p + "(...)*")
                || s.matches(".{0,2}" + c + ".." + c + ".." + c + ".{0,2}")
                || s.matches(c + "..." + c + "..." + c)
                || s.matches(".." + c + "." + c + "." + c + "..");
    }

    private static final java.util.Map<String, Integer> PLAYED = new java.util.HashMap<>();

    static int play(String s, char next) {
        Integer known = PLAYED.get(s);
        if (known != null) {
            return known;
        }
        char other = next == '1' ? '2' : '1';
        int best = three(s, next) ? 1 : three(s, other) ? -1 : s.indexOf('0') < 0 ? 0 : -2;
        if (best == -2) {
            for (int i = 0; i < 9; i++) {
                if (s.charAt(i) == '0') {
                    best = Math.max(best, -play(put(s, i, next), other));
                }
            }
        }
        PLAYED.put(s, best);
        return best;
    }
}
