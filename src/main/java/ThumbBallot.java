import java.util.Arrays;

/** A canton that votes by thumbs in the wax on its church door. */
public final class ThumbBallot {
    public static final int NONE = -1;

    private static final int VOTERS = 20;
    private static final int SIDE = 12;
    private static final int CELLS = SIDE * SIDE;
    private static final int LAST_HOUR = 11;
    private static final int MOST_HOURS = 60;
    private static final int LAST_DAY = 9990;
    private static final int STEPS = 6;

    private static final int WHORL = 0;
    private static final int MIND = 1;
    private static final int HEIGHT = 2;
    private static final int PRESS = 3;
    private static final int HAND = 4;
    private static final int CAME = 5;
    private static final int TRAITS = 6;

    private static final int TEXTS = 4;
    private static final int LAW = 0;
    private static final int WAYS = 1;
    private static final int SKY = 2;
    private static final int TWINS = 3;
    private static final int LINES = 16;
    private static final int WIDTH = 5;
    private static final int TAPE = 400;

    /** Every word of every text; a word's number is its place in this row. */
    private static final String WORDS =
            "comes melts weighs mind press height depth heat hour row beside came day when or and not voter at to on putty for against none twin";
    private static final int WORD = 300;
    private static final int COMES = WORD;
    private static final int MELTS = WORD + 1;
    private static final int WEIGHS = WORD + 2;
    private static final int WORD_MIND = WORD + 3;
    private static final int WORD_HEAT = WORD + 7;
    private static final int WORD_DAY = WORD + 12;
    private static final int WHEN = WORD + 13;
    private static final int OR = WORD + 14;
    private static final int AND = WORD + 15;
    private static final int NOT = WORD + 16;
    private static final int VOTER = WORD + 17;
    private static final int AT = WORD + 18;
    private static final int TO = WORD + 19;
    private static final int ON = WORD + 20;
    private static final int PUTTY = WORD + 21;
    private static final int FOR = WORD + 22;
    private static final int AGAINST = WORD + 23;
    private static final int WORD_NONE = WORD + 24;
    private static final int TWIN = WORD + 25;
    private static final int NUMBER = 1;
    private static final int END = 2;
    private static final int BAD = 3;

    private static final int CANNOT_STAND = 1;
    private static final int OUT_OF_BOUNDS = 2;
    private static final int TOO_MANY = 3;
    private static final int MOST_OPEN = 8;

    private static final int VALUES = 10;
    private static final int OP_NUMBER = 0;
    private static final int OP_VALUE = 1;
    private static final int OP_PART = 2;
    private static final int OP_NOT = 3;
    private static final int OP_PLUS = 4;
    private static final int OP_LESS = 5;
    private static final int OP_TIMES = 6;
    private static final int OP_BELOW = 7;
    private static final int OP_ALIKE = 8;
    private static final int OP_ABOVE = 9;
    private static final int OP_AND = 10;
    private static final int OP_OR = 11;
    private static final int OP_BITS = 4;
    private static final int OP_MASK = 15;

    private static final int BOOK_LINES = 150;
    private static final int BOOK_WIDTH = 5;
    private static final int LEFT = 0;
    private static final int LEFT_OVER = 1;
    private static final int MELTED = 2;
    private static final int LIFTED = 3;
    private static final int READ = 4;

    private static final int LISTS = 9;
    private static final int PARTIES = 0;
    private static final int HOUSES = 1;
    private static final int WISHES = 2;
    private static final int NAMES = 3;
    private static final int ENDS = 4;
    private static final int DOORS = 5;
    private static final int HEIGHTS = 6;
    private static final int COUPLES = 7;
    private static final int PAIRS = 8;
    private static final int[] ROOM = {6, 16, 15, 15, 8, 8, 12, 12, 12};
    private static final int PAIR = 256;
    private static final int BILLS = 8;

    private final World now = new World();
    private final World image = new World();
    private boolean imaged = false;
    private final Steps steps = new Steps();
    private final Reader reader = new Reader();
    private final Canton thoughtOf = new Canton();
    private final Course course;
    private final Course thought;
    private final Shapes shapes = new Shapes();
    private final Puzzles puzzles = new Puzzles();
    private final Game board = new Game();

    public ThumbBallot() {
        course = new Course(now.canton, now.texts, now.pages);
        thought = new Course(thoughtOf, now.texts, null);
    }

    public int state(int v) {
        int was = now.canton.draws;
        now.canton.draws = v;
        steps.forget();
        return was;
    }

    public int voter(int whorl, int mind, int height, int press) {
        boolean can = traitCan(WHORL, whorl) && traitCan(MIND, mind)
                && traitCan(HEIGHT, height) && traitCan(PRESS, press);
        if (!can || now.canton.voters >= VOTERS) {
            return NONE;
        }
        int number = now.canton.voters;
        now.canton.voters = number + 1;
        now.canton.setTrait(number, WHORL, whorl);
        now.canton.setTrait(number, MIND, mind);
        now.canton.setTrait(number, HEIGHT, height);
        now.canton.setTrait(number, PRESS, press);
        now.canton.setTrait(number, HAND, 0);
        now.canton.setTrait(number, CAME, 0);
        steps.forget();
        return number;
    }

    public boolean set(int what, int who, int v) {
        if (what == 4) {
            if (v < 0 || v > 9) {
                return false;
            }
            now.canton.heat = v;
        } else {
            if (!now.canton.has(who) || !traitCan(what, v)) {
                return false;
            }
            now.canton.setTrait(who, what, v);
        }
        steps.forget();
        return true;
    }

    public int press(int voter, int column) {
        if (!now.canton.mayPress(voter) || column < 0 || column >= SIDE) {
            return NONE;
        }
        steps.keep(now.canton);
        return course.leaveThumb(voter, column);
    }

    public boolean lift(int row, int column) {
        int cell = cellAt(row, column);
        if (!now.canton.marked(cell)) {
            return false;
        }
        steps.keep(now.canton);
        course.takeAway(cell, LIFTED);
        return true;
    }

    public boolean hand(int voter, int v) {
        if (!now.canton.has(voter) || v < 0 || v > 2 || now.canton.trait(voter, HAND) == v) {
            return false;
        }
        steps.keep(now.canton);
        now.canton.setTrait(voter, HAND, v);
        return true;
    }

    public int hours(int n) {
        if (n < 1 || n > MOST_HOURS || now.canton.day + (now.canton.hour + n) / 12 > LAST_DAY) {
            return NONE;
        }
        int left = 0;
        for (int i = 0; i < n; i++) {
            // An hour before the last six could never be undone, so it is not kept.
            if (n - i <= STEPS) {
                steps.keep(now.canton);
            }
            left += course.oneHour();
        }
        return left;
    }

    public int feed(int a, int b, int c, int d, int e) {
        if (reader.length + 20 > TAPE) {
            return NONE;
        }
        reader.take(a);
        reader.take(b);
        reader.take(c);
        reader.take(d);
        reader.take(e);
        return reader.length;
    }

    public boolean end(int n) {
        if (n < 0 || n > reader.length) {
            return false;
        }
        reader.length = n;
        return true;
    }

    public int text(int k) {
        Text read = reader.readTape(k, now.canton.voters);
        if (read == null || k < 0 || k >= TEXTS) {
            return NONE;
        }
        now.texts[k] = read;
        if (k == WAYS || k == SKY) {
            steps.forget();
        }
        return read.lines;
    }

    public int fault(int what) {
        if (what == 0) {
            return reader.faultKind;
        }
        return what == 1 ? reader.faultPlace : NONE;
    }

    public int of(int voter, int what) {
        if (!now.canton.has(voter) || what < 0 || what > 7) {
            return NONE - 1;
        }
        if (what == 6) {
            return course.comes(voter);
        }
        return what == 7 ? now.twinsOf(voter) : now.canton.trait(voter, what);
    }

    public int cell(int row, int column, int what) {
        int cell = cellAt(row, column);
        if (cell == NONE || what < 0 || what > 4) {
            return NONE - 1;
        }
        boolean bare = !now.canton.marked(cell);
        switch (what) {
            case 0:
                return now.canton.owner(cell);
            case 1:
                return now.canton.way(cell);
            case 2:
                return now.canton.depth(cell);
            case 3:
                return bare ? NONE : course.melts(cell);
            default:
                return bare ? NONE : course.weighs(cell);
        }
    }

    public int book(int i, int what) {
        if (i < 0 || i >= now.canton.lines || what < 0 || what >= BOOK_WIDTH) {
            return NONE - 9999;
        }
        return now.pages.number(i, what);
    }

    public int goes(int n, int what) {
        if (n < 1 || n > MOST_HOURS || what < 0 || what > 3) {
            return NONE - 99999;
        }
        thoughtOf.takeOver(now.canton);
        for (int i = 0; i < n; i++) {
            thought.oneHour();
        }
        switch (what) {
            case 0:
                return thoughtOf.passed;
            case 1:
                return thoughtOf.countMarks();
            case 2:
                return thought.sum();
            default:
                return thoughtOf.cameOfAll();
        }
    }

    public int wax(int what) {
        switch (what) {
            case 0:
                return course.sum();
            case 1:
                return course.turned();
            case 2:
                return shapes.blobs(now.canton);
            case 3:
                return shapes.greatestBlob(now.canton);
            case 4:
                return shapes.holes(now.canton);
            case 5:
                return shapes.unlike(now.canton) == 0 ? 1 : 0;
            case 6:
                return shapes.unlike(now.canton);
            case 7:
            case 8:
            case 9:
                return shapes.bareSquare(now.canton, what - 7);
            default:
                return NONE - 99999;
        }
    }

    public int whose(int whorl, int d) {
        if (whorl < 0 || whorl > 255 || d < NONE || d > 8) {
            return NONE;
        }
        return d == NONE ? now.canton.nearest(whorl) : now.canton.alike(whorl, d);
    }

    public int could(int voter) {
        return now.canton.has(voter) ? now.takenFor(voter) : NONE;
    }

    public int party(int votes) {
        return now.tell(PARTIES, votes == NONE, votes >= 0 && votes <= 999, votes);
    }

    public int seats(int n, int how, int i) {
        Told parties = now.told[PARTIES];
        if (n < 1 || n > 40 || how < 0 || how > 1 || i < 0 || i >= parties.count) {
            return NONE;
        }
        return puzzles.seatsOf(parties, n, how, i);
    }

    public int house(int v) {
        return now.tell(HOUSES, v == NONE, v == 0 || v == 1, v);
    }

    public int parishes(int k, int what) {
        Told houses = now.told[HOUSES];
        if (k < 1 || k > 8 || k > houses.count || what < 0 || what > 1) {
            return NONE;
        }
        return puzzles.parishesFor(houses, k, what == 0);
    }

    public int wish(int v) {
        return now.tell(WISHES, v == NONE, v >= 0 && v <= 99, v);
    }

    public int name(int v) {
        return now.tell(NAMES, v == NONE, v >= 0 && v <= 9, v);
    }

    public int middle(int what) {
        switch (what) {
            case 0:
                return puzzles.middleOf(now.told[WISHES]);
            case 1:
                return puzzles.farFromMiddle(now.told[WISHES]);
            case 2:
                return puzzles.moreThanHalf(now.told[NAMES]);
            case 3:
                return puzzles.mostTold(now.told[NAMES]);
            default:
                return NONE;
        }
    }

    public int candle(int v) {
        return now.tell(ENDS, v == NONE, v >= 1 && v <= 50, v);
    }

    public int candles(int n, int what) {
        if (n < 0 || n > 400 || what < 0 || what > 1) {
            return NONE;
        }
        return puzzles.sums(now.told[ENDS], n, what == 0);
    }

    public int door(int weight, int bears) {
        boolean can = weight >= 1 && weight <= 50 && bears >= 0 && bears <= 200;
        return now.tell(DOORS, weight == NONE, can, weight * PAIR + bears);
    }

    public int stack() {
        return puzzles.mostStacked(now.told[DOORS]);
    }

    public int stands(int v) {
        return now.tell(HEIGHTS, v == NONE, v >= 0 && v <= 30, v);
    }

    public int lantern(int h, int what) {
        if (h < 0 || h > 40 || what < 0 || what > 1) {
            return NONE;
        }
        return puzzles.shown(now.told[HEIGHTS], h, what == 0);
    }

    public int bill(int a, int b) {
        return now.tell(COUPLES, a == NONE, unlikeBills(a, b), a * PAIR + b);
    }

    public int bills(int what) {
        if (what < 0 || what > 2) {
            return NONE;
        }
        return puzzles.together(now.told[COUPLES], what);
    }

    public int before(int a, int b) {
        return now.tell(PAIRS, a == NONE, unlikeBills(a, b), a * PAIR + b);
    }

    public int order() {
        return puzzles.rowsOfAll(now.told[PAIRS]);
    }

    public int game(int cells, int what) {
        if (what < 0 || what > 1 || !board.lay(cells)) {
            return NONE - 9;
        }
        return what == 0 ? board.valueForNext() : board.firstThatKeeps();
    }

    public boolean undo() {
        return steps.goBack(now.canton);
    }

    public boolean image(boolean taken) {
        if (taken) {
            image.takeAll(now);
            imaged = true;
            return true;
        }
        if (imaged) {
            now.takeAll(image);
            steps.forget();
        }
        return imaged;
    }

    public int look(int what) {
        if (what >= 9 && what <= 12) {
            return now.linesOf(what - 9);
        }
        switch (what) {
            case 0:
                return now.canton.voters;
            case 1:
                return now.canton.countMarks();
            case 2:
                return now.canton.heat;
            case 3:
                return now.canton.hour;
            case 4:
                return now.canton.day;
            case 5:
                return now.canton.passed;
            case 6:
                return now.canton.failed;
            case 7:
                return now.canton.lines;
            case 8:
                return now.canton.draws;
            case 13:
                return steps.count;
            default:
                return NONE;
        }
    }

    private static boolean traitCan(int what, int v) {
        switch (what) {
            case WHORL:
                return v >= 0 && v <= 255;
            case MIND:
                return v >= -1 && v <= 1;
            case HEIGHT:
                return v >= 0 && v < SIDE;
            case PRESS:
                return v >= 0 && v <= 9;
            default:
                return false;
        }
    }

    private static boolean unlikeBills(int a, int b) {
        return a >= 0 && a < BILLS && b >= 0 && b < BILLS && a != b;
    }

    private static int cellAt(int row, int column) {
        boolean there = row >= 0 && row < SIDE && column >= 0 && column < SIDE;
        return there ? row * SIDE + column : NONE;
    }

    /** All that an image keeps: the canton, its book, its texts and what was told for thought. */
    private static final class World {
        final Canton canton = new Canton();
        final Pages pages = new Pages();
        final Text[] texts = new Text[TEXTS];
        final Told[] told = new Told[LISTS];

        World() {
            Text empty = new Text(new int[0], 0, new int[0]);
            for (int i = 0; i < TEXTS; i++) {
                texts[i] = empty;
            }
            for (int i = 0; i < LISTS; i++) {
                told[i] = new Told(ROOM[i]);
            }
        }

        void takeAll(World other) {
            canton.takeOver(other.canton);
            pages.takePages(other.pages);
            // A text never changes once it is read, so both may hold the same one.
            for (int i = 0; i < TEXTS; i++) {
                texts[i] = other.texts[i];
            }
            for (int i = 0; i < LISTS; i++) {
                told[i].takeList(other.told[i]);
            }
        }

        int tell(int list, boolean none, boolean can, int v) {
            if (list < 0 || list >= LISTS) {
                return NONE;
            }
            if (none) {
                told[list].count = 0;
                return 0;
            }
            return can ? told[list].add(v) : NONE;
        }

        int linesOf(int k) {
            return k >= 0 && k < TEXTS ? texts[k].lines : 0;
        }

        int twinsOf(int voter) {
            Text twins = texts[TWINS];
            int set = 0;
            for (int i = 0; i < twins.lines; i++) {
                int one = twins.number(i, 0);
                int other = twins.number(i, 1);
                if (one == voter) {
                    set |= 1 << other;
                }
                if (other == voter) {
                    set |= 1 << one;
                }
            }
            return set;
        }

        int takenFor(int voter) {
            int set = 1 << voter;
            // Every round reaches one voter more at least, or nothing is left to reach.
            for (int round = 0; round < VOTERS; round++) {
                int wider = set;
                for (int i = 0; i < VOTERS; i++) {
                    if ((set >> i & 1) == 1) {
                        wider |= twinsOf(i);
                    }
                }
                if (wider == set) {
                    return set;
                }
                set = wider;
            }
            return set;
        }
    }

    /** Voters, wax and weather: all that an hour changes, so that a step or a thought is one copy. */
    private static final class Canton {
        private final int[] traits = new int[TRAITS * VOTERS];
        /** Nothing: 0; else 16 times the voter and the depth, below 0 if the mark is down. */
        private final int[] marks = new int[CELLS];
        int voters = 0;
        int heat = 0;
        int hour = 0;
        int day = 0;
        int passed = 0;
        int failed = 0;
        int draws = 0;
        int lines = 0;

        void takeOver(Canton other) {
            System.arraycopy(other.traits, 0, traits, 0, TRAITS * VOTERS);
            System.arraycopy(other.marks, 0, marks, 0, CELLS);
            voters = other.voters;
            heat = other.heat;
            hour = other.hour;
            day = other.day;
            passed = other.passed;
            failed = other.failed;
            draws = other.draws;
            lines = other.lines;
        }

        boolean has(int voter) {
            return voter >= 0 && voter < voters && voter < VOTERS;
        }

        int trait(int voter, int what) {
            boolean there = has(voter) && what >= 0 && what < TRAITS;
            return there ? traits[what * VOTERS + voter] : 0;
        }

        void setTrait(int voter, int what, int v) {
            if (has(voter) && what >= 0 && what < TRAITS) {
                traits[what * VOTERS + voter] = v;
            }
        }

        boolean mayPress(int voter) {
            return has(voter) && trait(voter, HAND) == 0 && trait(voter, MIND) != 0;
        }

        int cameOfAll() {
            int all = 0;
            for (int i = 0; i < voters; i++) {
                all += trait(i, CAME);
            }
            return all;
        }

        private int mark(int cell) {
            return cell >= 0 && cell < CELLS ? marks[cell] : 0;
        }

        boolean marked(int cell) {
            return cell >= 0 && cell < CELLS && marks[cell] != 0;
        }

        int depth(int cell) {
            return Math.abs(mark(cell)) & 15;
        }

        int way(int cell) {
            return Integer.compare(mark(cell), 0);
        }

        int owner(int cell) {
            int mark = mark(cell);
            return mark == 0 ? NONE : Math.abs(mark) >> 4;
        }

        void putMark(int cell, int voter, int way, int depth) {
            if (cell >= 0 && cell < CELLS) {
                marks[cell] = way * (voter * 16 + depth);
            }
        }

        void takeMark(int cell) {
            if (cell >= 0 && cell < CELLS) {
                marks[cell] = 0;
            }
        }

        void thinMark(int cell) {
            if (marked(cell) && depth(cell) > 1) {
                marks[cell] -= way(cell);
            }
        }

        void takeAllMarks() {
            Arrays.fill(marks, 0);
        }

        int countMarks() {
            int count = 0;
            for (int i = 0; i < CELLS; i++) {
                count += marks[i] == 0 ? 0 : 1;
            }
            return count;
        }

        int besides(int cell) {
            int column = cell % SIDE;
            int count = marked(cell + SIDE) ? 1 : 0;
            count += marked(cell - SIDE) ? 1 : 0;
            count += column > 0 && marked(cell - 1) ? 1 : 0;
            count += column < SIDE - 1 && marked(cell + 1) ? 1 : 0;
            return count;
        }

        int drawThousand() {
            draws = 1664525 * draws + 1013904223;
            return (draws >>> 8) % 1000;
        }

        int alike(int whorl, int d) {
            int set = 0;
            for (int i = 0; i < voters; i++) {
                if (Integer.bitCount(trait(i, WHORL) ^ whorl) <= d) {
                    set |= 1 << i;
                }
            }
            return set;
        }

        int nearest(int whorl) {
            int best = NONE;
            int bits = 9;
            for (int i = 0; i < voters; i++) {
                int unlike = Integer.bitCount(trait(i, WHORL) ^ whorl);
                if (unlike < bits) {
                    bits = unlike;
                    best = i;
                }
            }
            return best;
        }
    }

    /** The lines of the book; how many of them count stands in the canton, so that a step back is cheap. */
    private static final class Pages {
        private final int[] numbers = new int[BOOK_LINES * BOOK_WIDTH];

        /** Writes behind the first lines, and answers how many there are then. */
        int write(int lines, Canton when, int what, int who, int amount) {
            if (lines < 0 || lines >= BOOK_LINES) {
                return lines;
            }
            int at = lines * BOOK_WIDTH;
            numbers[at] = when.day;
            numbers[at + 1] = when.hour;
            numbers[at + 2] = what;
            numbers[at + 3] = who;
            numbers[at + 4] = amount;
            return lines + 1;
        }

        int number(int line, int what) {
            boolean there = line >= 0 && line < BOOK_LINES && what >= 0 && what < BOOK_WIDTH;
            return there ? numbers[line * BOOK_WIDTH + what] : 0;
        }

        void takePages(Pages other) {
            System.arraycopy(other.numbers, 0, numbers, 0, BOOK_LINES * BOOK_WIDTH);
        }
    }

    /** A row of numbers told for thought, with room for a few. */
    private static final class Told {
        private final int[] items;
        int count = 0;

        Told(int room) {
            items = new int[Math.max(room, 0)];
        }

        int add(int v) {
            if (count < 0 || count >= items.length) {
                return NONE;
            }
            items[count] = v;
            count++;
            return count;
        }

        int item(int i) {
            return i >= 0 && i < count && i < items.length ? items[i] : 0;
        }

        void takeList(Told other) {
            count = Math.min(other.count, items.length);
            for (int i = 0; i < count; i++) {
                items[i] = other.item(i);
            }
        }
    }

    /** The latest cantons that can be gone back to, in a ring. */
    private static final class Steps {
        private final Canton[] ring = new Canton[STEPS];
        private int next = 0;
        int count = 0;

        Steps() {
            for (int i = 0; i < STEPS; i++) {
                ring[i] = new Canton();
            }
        }

        void keep(Canton now) {
            if (next < 0 || next >= STEPS) {
                return;
            }
            ring[next].takeOver(now);
            next = next + 1 < STEPS ? next + 1 : 0;
            count = Math.min(count + 1, STEPS);
        }

        boolean goBack(Canton now) {
            if (count == 0 || next < 0 || next >= STEPS) {
                return false;
            }
            next = next > 0 ? next - 1 : STEPS - 1;
            count--;
            now.takeOver(ring[next]);
            return true;
        }

        void forget() {
            count = 0;
        }
    }

    /** A text as it was read: lines of five numbers, and for the law the code that they point into. */
    private static final class Text {
        private final int[] numbers;
        final int lines;
        private final int[] code;

        Text(int[] numbers, int lines, int[] code) {
            this.numbers = numbers;
            this.lines = lines;
            this.code = code;
        }

        int number(int line, int what) {
            boolean there = line >= 0 && line < lines && what >= 0 && what < WIDTH
                    && line * WIDTH + what < numbers.length;
            return there ? numbers[line * WIDTH + what] : 0;
        }

        /** What the law tells for a word, with the values of its words laid out, and a pile to work on. */
        int tells(int word, int otherwise, int[] values, int[] pile) {
            for (int i = 0; i < lines; i++) {
                if (number(i, 0) == word) {
                    int from = number(i, 1);
                    int when = number(i, 2);
                    int to = number(i, 3);
                    if (when == to || run(when, to, values, pile) != 0) {
                        return run(from, when, values, pile);
                    }
                }
            }
            return otherwise;
        }

        private int run(int from, int to, int[] values, int[] pile) {
            int top = 0;
            for (int i = Math.max(from, 0); i < to && i < code.length; i++) {
                int op = code[i] & OP_MASK;
                int with = code[i] >> OP_BITS;
                if (op == OP_NUMBER || op == OP_VALUE) {
                    if (top < pile.length && with >= 0) {
                        pile[top] = op == OP_VALUE && with < values.length ? values[with] : with;
                        top++;
                    }
                } else if (op == OP_PART || op == OP_NOT) {
                    if (top > 0) {
                        pile[top - 1] = op == OP_NOT ? 1 - pile[top - 1] : part(pile[top - 1], with);
                    }
                } else if (top > 1) {
                    top--;
                    pile[top - 1] = join(op, pile[top - 1], pile[top]);
                }
            }
            return top > 0 ? pile[0] : 0;
        }

        private static int part(int a, int by) {
            return by == 0 ? 0 : a / by;
        }

        private static int join(int op, int a, int b) {
            switch (op) {
                case OP_PLUS:
                    return a + b;
                case OP_LESS:
                    return a - b;
                case OP_TIMES:
                    return a * b;
                case OP_BELOW:
                    return a < b ? 1 : 0;
                case OP_ALIKE:
                    return a == b ? 1 : 0;
                case OP_ABOVE:
                    return a > b ? 1 : 0;
                case OP_AND:
                    return a & b;
                default:
                    return a | b;
            }
        }
    }

    /** How hours go over a canton: for real, with a book, or in thought, without one and without draws. */
    private static final class Course {
        private final Canton canton;
        private final Text[] texts;
        private final Pages pages;
        private final int[] values = new int[VALUES];
        /** Eight open brackets hold two answers each, a comparison four more: 32 is room enough. */
        private final int[] pile = new int[32];
        /** How many marks down weigh 0 .. 99 each. */
        private final int[] heavy = new int[100];

        Course(Canton canton, Text[] texts, Pages pages) {
            this.canton = canton;
            this.texts = texts;
            this.pages = pages;
        }

        int comes(int voter) {
            layValues(voter, NONE);
            int usual = 500 + 50 * canton.trait(voter, PRESS);
            return held(texts[LAW].tells(COMES, usual, values, pile), 1000);
        }

        int melts(int cell) {
            layValues(canton.owner(cell), cell);
            int usual = 100 * canton.heat - 50 * canton.depth(cell);
            return held(texts[LAW].tells(MELTS, usual, values, pile), 1000);
        }

        int weighs(int cell) {
            layValues(canton.owner(cell), cell);
            return held(texts[LAW].tells(WEIGHS, canton.depth(cell), values, pile), 99);
        }

        /** The values stand in the order of their words, from mind to day. */
        private void layValues(int voter, int cell) {
            boolean onWax = cell != NONE;
            values[0] = onWax ? canton.way(cell) : canton.trait(voter, MIND);
            values[1] = canton.trait(voter, PRESS);
            values[2] = canton.trait(voter, HEIGHT);
            values[3] = onWax ? canton.depth(cell) : 0;
            values[4] = canton.heat;
            values[5] = canton.hour;
            values[6] = onWax ? cell / SIDE : 0;
            values[7] = onWax ? canton.besides(cell) : 0;
            values[8] = canton.trait(voter, CAME);
            values[9] = canton.day;
        }

        private static int held(int v, int most) {
            return Math.max(0, Math.min(most, v));
        }

        int sum() {
            int sum = 0;
            for (int cell = 0; cell < CELLS; cell++) {
                if (canton.marked(cell)) {
                    sum += canton.way(cell) * weighs(cell);
                }
            }
            return sum;
        }

        /** The heaviest marks down are lifted first: fewer could never do. */
        int turned() {
            Arrays.fill(heavy, 0);
            int sum = 0;
            for (int cell = 0; cell < CELLS; cell++) {
                if (canton.marked(cell)) {
                    int weight = weighs(cell);
                    sum += canton.way(cell) * weight;
                    if (canton.way(cell) < 0 && weight >= 0 && weight < heavy.length) {
                        heavy[weight]++;
                    }
                }
            }
            int lifted = 0;
            for (int weight = 99; weight > 0; weight--) {
                for (int i = 0; i < heavy[weight] && sum <= 0; i++) {
                    sum += weight;
                    lifted++;
                }
            }
            return sum > 0 ? lifted : NONE;
        }

        /** One hour goes by: how many thumbs were left in it. */
        int oneHour() {
            skyOfHour();
            int left = thumbsOfHour();
            meltAll();
            if (canton.hour < LAST_HOUR) {
                canton.hour++;
            } else {
                readDoor();
            }
            return left;
        }

        private void skyOfHour() {
            Text sky = texts[SKY];
            for (int i = 0; i < sky.lines; i++) {
                if (sky.number(i, 0) == canton.day && sky.number(i, 2) == canton.hour) {
                    int what = sky.number(i, 1);
                    if (what == WORD_MIND) {
                        canton.setTrait(sky.number(i, 3), MIND, sky.number(i, 4));
                    } else if (what == WORD_HEAT) {
                        canton.heat = sky.number(i, 3);
                    } else {
                        takeAway(sky.number(i, 4) * SIDE + sky.number(i, 3), LIFTED);
                    }
                }
            }
        }

        private int thumbsOfHour() {
            Text ways = texts[WAYS];
            int left = 0;
            for (int i = 0; i < ways.lines; i++) {
                int voter = ways.number(i, 0);
                if (ways.number(i, 1) == canton.hour && canton.mayPress(voter) && happens(comes(voter))) {
                    leaveThumb(voter, ways.number(i, 2));
                    left++;
                }
            }
            return left;
        }

        private void meltAll() {
            for (int cell = 0; cell < CELLS; cell++) {
                if (canton.marked(cell) && happens(melts(cell))) {
                    if (canton.depth(cell) > 1) {
                        canton.thinMark(cell);
                    } else {
                        takeAway(cell, MELTED);
                    }
                }
            }
        }

        private void readDoor() {
            int sum = sum();
            if (sum > 0) {
                canton.passed++;
            } else {
                canton.failed++;
            }
            note(READ, NONE, sum);
            canton.takeAllMarks();
            canton.hour = 0;
            canton.day++;
        }

        private boolean happens(int chance) {
            if (pages == null) {
                return chance >= 500;
            }
            return chance > 0 && canton.drawThousand() < chance;
        }

        /** The voter's thumb goes into the column: on which cell. */
        int leaveThumb(int voter, int column) {
            int height = canton.trait(voter, HEIGHT);
            int row = 0;
            while (row < height && row < SIDE - 1 && canton.marked(row * SIDE + column)) {
                row++;
            }
            int cell = row * SIDE + column;
            int what = canton.marked(cell) ? LEFT_OVER : LEFT;
            int depth = Math.min(1 + canton.trait(voter, PRESS) / 2, 9);
            canton.putMark(cell, voter, canton.trait(voter, MIND), depth);
            canton.setTrait(voter, CAME, canton.trait(voter, CAME) + 1);
            note(what, voter, cell);
            return cell;
        }

        void takeAway(int cell, int how) {
            if (canton.marked(cell)) {
                int who = canton.owner(cell);
                canton.takeMark(cell);
                note(how, who, cell);
            }
        }

        private void note(int what, int who, int amount) {
            if (pages != null) {
                canton.lines = pages.write(canton.lines, canton, what, who, amount);
            }
        }
    }

    /** The tape, and how it is read as one of the four texts. */
    private static final class Reader {
        private final int[] tape = new int[TAPE];
        int length = 0;
        private int size = 0;
        private int place = 0;
        private int after = 0;
        private int token = END;
        private int number = 0;
        int faultKind = 0;
        int faultPlace = NONE;
        private int voters = 0;
        private final int[] rows = new int[LINES * WIDTH];
        private int lines = 0;
        private final int[] code = new int[TAPE];
        private int codes = 0;

        void take(int four) {
            for (int shift = 24; shift >= 0; shift -= 8) {
                if (length < TAPE) {
                    tape[length] = four >>> shift & 255;
                    length++;
                }
            }
        }

        /** The tape as text k, null if it has a fault or there is no such text; the tape is empty then. */
        Text readTape(int k, int voters) {
            size = length;
            length = 0;
            after = 0;
            lines = 0;
            codes = 0;
            this.voters = voters;
            faultKind = 0;
            faultPlace = NONE;
            if (k < 0 || k >= TEXTS) {
                return null;
            }
            step();
            boolean fine = true;
            for (int i = 0; i <= LINES && fine && token != END; i++) {
                fine = opensLine(k) && (k == LAW ? lawLine() : plainLine(k)) && sign(';');
                lines++;
            }
            if (!fine) {
                return null;
            }
            return new Text(Arrays.copyOf(rows, lines * WIDTH), lines, Arrays.copyOf(code, codes));
        }

        /** Goes to the next token. */
        private void step() {
            while (after < size && (tape[after] == 32 || tape[after] == 10)) {
                after++;
            }
            place = after;
            if (after >= size) {
                token = END;
            } else if (letter(tape[after])) {
                while (after < size && letter(tape[after])) {
                    after++;
                }
                token = wordOf(place, after);
            } else if (digit(tape[after])) {
                number = 0;
                while (after < size && digit(tape[after])) {
                    number = number * 10 + tape[after] - '0';
                    after++;
                }
                token = after - place <= 4 ? NUMBER : BAD;
            } else {
                token = tape[after] >= 40 && tape[after] <= 62 ? tape[after] : BAD;
                after++;
            }
        }

        private static boolean letter(int c) {
            return c >= 'a' && c <= 'z' || c >= 'A' && c <= 'Z';
        }

        private static boolean digit(int c) {
            return c >= '0' && c <= '9';
        }

        private int wordOf(int from, int to) {
            int word = WORD;
            int at = from;
            boolean alike = true;
            for (int i = 0; i < WORDS.length(); i++) {
                char c = WORDS.charAt(i);
                if (c == ' ') {
                    if (alike && at == to) {
                        return word;
                    }
                    word++;
                    at = from;
                    alike = true;
                } else {
                    alike = alike && at < to && at < size && tape[at] == c;
                    at++;
                }
            }
            return alike && at == to ? word : BAD;
        }

        private boolean wrong(int kind) {
            faultKind = kind;
            faultPlace = place;
            return false;
        }

        /** What must stand here: goes on behind it. */
        private boolean sign(int due) {
            if (token != due) {
                return wrong(CANNOT_STAND);
            }
            step();
            return true;
        }

        /** A number from 0 up to the most must stand here: it becomes number what of the line. */
        private boolean bounded(int what, int most) {
            if (token != NUMBER) {
                return wrong(CANNOT_STAND);
            }
            if (number > most) {
                return wrong(OUT_OF_BOUNDS);
            }
            put(what, number);
            step();
            return true;
        }

        private void put(int what, int v) {
            if (lines >= 0 && lines < LINES && what >= 0 && what < WIDTH) {
                rows[lines * WIDTH + what] = v;
            }
        }

        private boolean opensLine(int k) {
            boolean opens;
            if (k == LAW) {
                opens = token == COMES || token == MELTS || token == WEIGHS;
            } else {
                opens = token == (k == SKY ? ON : VOTER);
            }
            if (!opens) {
                return wrong(CANNOT_STAND);
            }
            if (lines >= LINES) {
                return wrong(TOO_MANY);
            }
            put(0, token);
            step();
            return true;
        }

        private boolean plainLine(int k) {
            if (k == SKY) {
                return bounded(0, 999) && skyLine();
            }
            int one = number;
            if (!bounded(0, voters - 1)) {
                return false;
            }
            if (k == WAYS) {
                return sign(AT) && bounded(1, LAST_HOUR) && sign(TO) && bounded(2, SIDE - 1);
            }
            if (!sign(TWIN)) {
                return false;
            }
            if (token == NUMBER && number == one) {
                return wrong(OUT_OF_BOUNDS);
            }
            return bounded(1, voters - 1);
        }

        /** Day, what, hour, then the heat, or column and row, or voter and mind. */
        private boolean skyLine() {
            put(1, token);
            if (token == WORD_HEAT) {
                step();
                return bounded(3, 9) && sign(AT) && bounded(2, LAST_HOUR);
            }
            if (token == PUTTY) {
                step();
                return sign(AT) && bounded(2, LAST_HOUR) && bounded(3, SIDE - 1) && bounded(4, SIDE - 1);
            }
            if (token == WORD_MIND) {
                step();
                put(2, 0);
                return bounded(3, voters - 1) && mindWord();
            }
            return wrong(CANNOT_STAND);
        }

        private boolean mindWord() {
            if (token != FOR && token != AGAINST && token != WORD_NONE) {
                return wrong(CANNOT_STAND);
            }
            int mind = token == FOR ? 1 : 0;
            put(4, token == AGAINST ? -1 : mind);
            step();
            return true;
        }

        private boolean lawLine() {
            put(1, codes);
            if (!readSum()) {
                return false;
            }
            put(2, codes);
            if (token == WHEN) {
                step();
                if (!readChoice(0)) {
                    return false;
                }
            }
            put(3, codes);
            return true;
        }

        private void emit(int op, int with) {
            if (codes < TAPE) {
                code[codes] = with << OP_BITS | op;
                codes++;
            }
        }

        /** B = A {or A} and A = C {and C} in one, under so many that are open. */
        private boolean readChoice(int open) {
            boolean either = false;
            boolean both = false;
            for (int i = 0; i < TAPE; i++) {
                if (!readTest(open)) {
                    return false;
                }
                if (both) {
                    emit(OP_AND, 0);
                }
                both = token == AND;
                if (!both) {
                    if (either) {
                        emit(OP_OR, 0);
                    }
                    either = token == OR;
                    if (!either) {
                        return true;
                    }
                }
                step();
            }
            return wrong(CANNOT_STAND);
        }

        /** C, under so many that are open. */
        private boolean readTest(int open) {
            boolean not = token == NOT;
            if (not || token == '(') {
                if (open >= MOST_OPEN) {
                    return wrong(TOO_MANY);
                }
                step();
                if (!not) {
                    return readChoice(open + 1) && sign(')');
                }
                if (!readTest(open + 1)) {
                    return false;
                }
                emit(OP_NOT, 0);
                return true;
            }
            if (!readSum()) {
                return false;
            }
            if (token != '<' && token != '=' && token != '>') {
                return wrong(CANNOT_STAND);
            }
            int op = OP_ALIKE + token - '=';
            step();
            if (!readSum()) {
                return false;
            }
            emit(op, 0);
            return true;
        }

        /** E = T {(+ | -) T} and T = U {* U | / NUMBER} in one. */
        private boolean readSum() {
            int sum = 0;
            int joint = 0;
            for (int i = 0; i < TAPE; i++) {
                if (!emitUnit(joint)) {
                    return false;
                }
                step();
                joint = token;
                if (joint != '*' && joint != '/') {
                    if (sum != 0) {
                        emit(sum, 0);
                    }
                    if (token != '+' && token != '-') {
                        return true;
                    }
                    sum = token == '+' ? OP_PLUS : OP_LESS;
                }
                step();
            }
            return wrong(CANNOT_STAND);
        }

        /** U, or the NUMBER of a part; the joint is what stands ahead of it. */
        private boolean emitUnit(int joint) {
            boolean part = joint == '/';
            if (token == NUMBER) {
                if (part && number == 0) {
                    return wrong(OUT_OF_BOUNDS);
                }
                emit(part ? OP_PART : OP_NUMBER, number);
            } else if (!part && token >= WORD_MIND && token <= WORD_DAY) {
                emit(OP_VALUE, token - WORD_MIND);
            } else {
                return wrong(CANNOT_STAND);
            }
            if (joint == '*') {
                emit(OP_TIMES, 0);
            }
            return true;
        }
    }

    /** What lies on the wax: what hangs together, whether it is a face, the greatest bare square. */
    private static final class Shapes {
        private final int[] seen = new int[CELLS];
        private final int[] queue = new int[CELLS];
        private int reached = 0;
        private boolean atEdge = false;

        int blobs(Canton canton) {
            return pieces(canton, true, 0);
        }

        int greatestBlob(Canton canton) {
            return pieces(canton, true, 1);
        }

        int holes(Canton canton) {
            return pieces(canton, false, 2);
        }

        /** Of the pieces with marks, or of the bare ones: 0 how many, 1 the greatest, 2 how many at no edge. */
        private int pieces(Canton canton, boolean marked, int what) {
            int count = 0;
            int greatest = 0;
            int inside = 0;
            for (int i = 0; i < CELLS; i++) {
                seen[i] = canton.marked(i) == marked ? 0 : 1;
            }
            for (int i = 0; i < CELLS; i++) {
                if (seen[i] == 0) {
                    spread(i);
                    count++;
                    greatest = Math.max(greatest, reached);
                    inside += atEdge ? 0 : 1;
                }
            }
            if (what == 0) {
                return count;
            }
            return what == 1 ? greatest : inside;
        }

        private void spread(int start) {
            reached = 0;
            atEdge = false;
            reach(start / SIDE, start % SIDE);
            for (int i = 0; i < reached && i < CELLS; i++) {
                int row = queue[i] / SIDE;
                int column = queue[i] % SIDE;
                atEdge = atEdge || row == 0 || row == SIDE - 1 || column == 0 || column == SIDE - 1;
                reach(row + 1, column);
                reach(row - 1, column);
                reach(row, column + 1);
                reach(row, column - 1);
            }
        }

        private void reach(int row, int column) {
            int cell = cellAt(row, column);
            if (cell != NONE && seen[cell] == 0 && reached < CELLS) {
                seen[cell] = 1;
                queue[reached] = cell;
                reached++;
            }
        }

        int unlike(Canton canton) {
            int count = 0;
            for (int row = 0; row < SIDE; row++) {
                for (int column = 0; column < SIDE / 2; column++) {
                    int left = canton.way(row * SIDE + column);
                    int right = canton.way(row * SIDE + SIDE - 1 - column);
                    count += left == right ? 0 : 1;
                }
            }
            return count;
        }

        /** Of the greatest bare square: 0 its side, 1 its lowest row, 2 its first column. */
        int bareSquare(Canton canton, int what) {
            int side = 0;
            int cell = NONE;
            for (int i = CELLS - 1; i >= 0; i--) {
                seen[i] = canton.marked(i) ? 0 : 1 + squareBehind(i);
                // Going down, so that the lowest and first of several comes last.
                if (seen[i] > 0 && seen[i] >= side) {
                    side = seen[i];
                    cell = i;
                }
            }
            if (what == 0) {
                return side;
            }
            if (cell == NONE) {
                return NONE;
            }
            return what == 1 ? cell / SIDE : cell % SIDE;
        }

        /** The greatest square that begins both above and to the right of the cell, and between them. */
        private int squareBehind(int cell) {
            if (cell < 0 || cell + SIDE + 1 >= CELLS || cell % SIDE == SIDE - 1) {
                return 0;
            }
            return Math.min(seen[cell + 1], Math.min(seen[cell + SIDE], seen[cell + SIDE + 1]));
        }
    }

    /** What is thought out of told numbers alone. */
    private static final class Puzzles {
        private final int[] first = new int[401];
        private final int[] second = new int[401];

        int seatsOf(Told parties, int n, int how, int i) {
            Arrays.fill(first, 0);
            for (int seat = 0; seat < n; seat++) {
                int best = NONE;
                int most = 0;
                for (int p = 0; p < parties.count && p < first.length; p++) {
                    int by = how == 0 ? first[p] + 1 : 2 * first[p] + 1;
                    int share = by > 0 ? parties.item(p) / by : 0;
                    if (share > most) {
                        most = share;
                        best = p;
                    }
                }
                if (best >= 0) {
                    first[best]++;
                }
            }
            return i >= 0 && i < first.length ? first[i] : 0;
        }

        /** first: the best for so many houses ahead, second: how many of them are for it. */
        int parishesFor(Told houses, int k, boolean most) {
            int n = Math.min(houses.count, first.length - 1);
            Arrays.fill(first, NONE);
            first[0] = 0;
            second[0] = 0;
            for (int i = 0; i < n; i++) {
                second[i + 1] = second[i] + houses.item(i);
            }
            for (int j = 0; j < k; j++) {
                for (int to = n; to >= 0; to--) {
                    first[to] = lastParish(to, most);
                }
            }
            return first[n];
        }

        private int lastParish(int to, boolean most) {
            int best = NONE;
            for (int from = 0; from < to && to < first.length; from++) {
                if (first[from] != NONE) {
                    int won = 2 * (second[to] - second[from]) > to - from ? 1 : 0;
                    int all = first[from] + won;
                    if (best == NONE || (most ? all > best : all < best)) {
                        best = all;
                    }
                }
            }
            return best;
        }

        int middleOf(Told wishes) {
            int half = (wishes.count + 1) / 2;
            if (half == 0) {
                return NONE;
            }
            for (int w = 0; w <= 99; w++) {
                int below = 0;
                for (int i = 0; i < wishes.count; i++) {
                    below += wishes.item(i) <= w ? 1 : 0;
                }
                if (below >= half) {
                    return w;
                }
            }
            return NONE;
        }

        int farFromMiddle(Told wishes) {
            int middle = middleOf(wishes);
            int far = 0;
            for (int i = 0; i < wishes.count; i++) {
                far += Math.abs(wishes.item(i) - middle);
            }
            return far;
        }

        int moreThanHalf(Told names) {
            for (int name = 0; name <= 9; name++) {
                if (2 * timesTold(names, name) > names.count) {
                    return name;
                }
            }
            return NONE;
        }

        int mostTold(Told names) {
            int most = 0;
            for (int name = 0; name <= 9; name++) {
                most = Math.max(most, timesTold(names, name));
            }
            return most;
        }

        private static int timesTold(Told names, int name) {
            int times = 0;
            for (int i = 0; i < names.count; i++) {
                times += names.item(i) == name ? 1 : 0;
            }
            return times;
        }

        int sums(Told ends, int n, boolean howMany) {
            Arrays.fill(first, 0);
            first[0] = 1;
            for (int i = 0; i < ends.count; i++) {
                int end = Math.max(ends.item(i), 1);
                for (int sum = first.length - 1; sum >= end; sum--) {
                    first[sum] |= first[sum - end];
                }
            }
            int count = 0;
            int greatest = 0;
            for (int sum = 0; sum <= n && sum < first.length; sum++) {
                if (first[sum] == 1) {
                    count++;
                    greatest = sum;
                }
            }
            return howMany ? count : greatest;
        }

        /** first: of a set of doors its weight, NONE if it can't be stacked. */
        int mostStacked(Told doors) {
            int sets = 1 << Math.min(doors.count, 8);
            int best = 0;
            first[0] = 0;
            for (int set = 1; set < sets; set++) {
                first[set] = NONE;
                for (int i = 0; i < doors.count; i++) {
                    int rest = set & ~(1 << i);
                    int weight = doors.item(i) / PAIR;
                    int bears = doors.item(i) % PAIR;
                    if (rest < set && first[rest] != NONE && first[rest] <= bears) {
                        first[set] = first[rest] + weight;
                    }
                }
                if (first[set] != NONE) {
                    best = Math.max(best, Integer.bitCount(set));
                }
            }
            return best;
        }

        int shown(Told heights, int h, boolean howMany) {
            int highest = NONE;
            int count = 0;
            int last = NONE;
            for (int i = 0; i < heights.count; i++) {
                int height = heights.item(i);
                if (height > highest) {
                    highest = height;
                    if (height <= h) {
                        count++;
                        last = i;
                    }
                }
            }
            return howMany ? count : last;
        }

        /** What 0 the most that go together, 1 the least such set, 2 how many sets go together. */
        int together(Told couples, int what) {
            int most = NONE;
            int least = 0;
            int ways = 0;
            for (int set = 0; set < 1 << BILLS; set++) {
                if (goTogether(couples, set)) {
                    ways++;
                    if (Integer.bitCount(set) > most) {
                        most = Integer.bitCount(set);
                        least = set;
                    }
                }
            }
            if (what == 0) {
                return most;
            }
            return what == 1 ? least : ways;
        }

        private static boolean goTogether(Told couples, int set) {
            for (int i = 0; i < couples.count; i++) {
                int both = 1 << couples.item(i) / PAIR | 1 << couples.item(i) % PAIR;
                if ((set & both) == both) {
                    return false;
                }
            }
            return true;
        }

        /** first: in how many rows a set can stand ahead, second: who must stand before each. */
        int rowsOfAll(Told pairs) {
            Arrays.fill(second, 0);
            for (int i = 0; i < pairs.count; i++) {
                int behind = pairs.item(i) % PAIR;
                if (behind >= 0 && behind < BILLS) {
                    second[behind] |= 1 << pairs.item(i) / PAIR;
                }
            }
            Arrays.fill(first, 0);
            first[0] = 1;
            int all = (1 << BILLS) - 1;
            for (int set = 0; set < all; set++) {
                for (int i = 0; i < BILLS; i++) {
                    if ((set >> i & 1) == 0 && (second[i] & ~set) == 0) {
                        first[set | 1 << i] += first[set];
                    }
                }
            }
            return first[all];
        }
    }

    /** The game on wax of three by three; values once found are kept, two bits for each of 3^9 boards. */
    private static final class Game {
        private static final int[] POWERS = {6561, 2187, 729, 243, 81, 27, 9, 3, 1};
        private static final int[] THREES = {
            0, 1, 2, 3, 4, 5, 6, 7, 8, 0, 3, 6, 1, 4, 7, 2, 5, 8, 0, 4, 8, 2, 4, 6};
        private static final int CELLS_OF_GAME = 9;
        private static final int A_BOARD = 16;
        private static final int UNKNOWN = -2;

        private final int[] known = new int[19683 / A_BOARD + 1];
        private final int[] cells = new int[CELLS_OF_GAME];
        private int start = 0;
        private int filled = 0;

        /** Lays the told cells: whether such a game can be. */
        boolean lay(int told) {
            if (told < 0 || told > 222222222) {
                return false;
            }
            int rest = told;
            int ups = 0;
            int downs = 0;
            start = 0;
            for (int i = CELLS_OF_GAME - 1; i >= 0; i--) {
                int cell = rest % 10;
                rest /= 10;
                if (cell > 2) {
                    return false;
                }
                cells[i] = cell;
                start += cell * POWERS[i];
                ups += cell == 1 ? 1 : 0;
                downs += cell == 2 ? 1 : 0;
            }
            filled = ups + downs;
            return (ups == downs || ups == downs + 1) && !(hasThree(1) && hasThree(2));
        }

        int valueForNext() {
            return value(start, filled);
        }

        int firstThatKeeps() {
            if (hasThree(1) || hasThree(2)) {
                return NONE;
            }
            int due = value(start, filled);
            for (int i = 0; i < CELLS_OF_GAME; i++) {
                if (cells[i] == 0 && valueOfMove(i, start, filled) == due) {
                    return i;
                }
            }
            return NONE;
        }

        private int value(int code, int depth) {
            int value = recall(code);
            if (value != UNKNOWN) {
                return value;
            }
            int next = whoIsNext(depth);
            if (hasThree(next)) {
                value = 1;
            } else if (hasThree(3 - next)) {
                value = -1;
            } else if (depth >= CELLS_OF_GAME) {
                value = 0;
            } else {
                value = -1;
                for (int i = 0; i < CELLS_OF_GAME && value < 1; i++) {
                    if (cells[i] == 0) {
                        value = Math.max(value, valueOfMove(i, code, depth));
                    }
                }
            }
            keepValue(code, value);
            return value;
        }

        private int valueOfMove(int cell, int code, int depth) {
            if (cell < 0 || cell >= CELLS_OF_GAME || depth >= CELLS_OF_GAME) {
                return 0;
            }
            int next = whoIsNext(depth);
            cells[cell] = next;
            int value = -value(code + next * POWERS[cell], depth + 1);
            cells[cell] = 0;
            return value;
        }

        private static int whoIsNext(int depth) {
            return depth % 2 == 0 ? 1 : 2;
        }

        private boolean hasThree(int who) {
            for (int i = 0; i + 2 < THREES.length; i += 3) {
                if (cells[THREES[i]] == who && cells[THREES[i + 1]] == who && cells[THREES[i + 2]] == who) {
                    return true;
                }
            }
            return false;
        }

        private int recall(int code) {
            int at = code / A_BOARD;
            if (code < 0 || at >= known.length) {
                return UNKNOWN;
            }
            return (known[at] >> 2 * (code % A_BOARD) & 3) - 2;
        }

        private void keepValue(int code, int value) {
            int at = code / A_BOARD;
            if (code >= 0 && at < known.length) {
                known[at] |= value + 2 << 2 * (code % A_BOARD);
            }
        }
    }
}
