import java.util.Arrays;

/** Rows of throws for one to three jugglers, told by texts; DOC.md tells what each method promises. */
public final class JugglingHall {
    public static final int NONE = -1;

    private static final int LETTERS = 8;
    private static final int LAST_TIME = 60;
    private static final int MOST_JUGGLERS = 3;
    private static final int MOST_BEATS = 24;
    private static final int HANDS = 2;
    private static final int MOST_PLACES = MOST_BEATS * MOST_JUGGLERS;
    private static final int MOST_CELLS = MOST_PLACES * HANDS;
    private static final int HIGHEST = 9;
    private static final int MOST_BYTES = 300;
    private static final int MOST_MARKS = 7;
    private static final int LAST_PLAYED = 999;

    private final int jugglers;
    private final Tape tape;
    private final Book book;
    private final Reader reader;
    private final Catches catches;
    private final Ways ways;
    private final Sheet sheet;
    private final Filling filling;

    public JugglingHall(int jugglers) {
        this.jugglers = Math.max(1, Math.min(MOST_JUGGLERS, jugglers));
        this.tape = new Tape();
        this.book = new Book();
        this.reader = new Reader(this.jugglers, new Tokens(tape), book);
        this.catches = new Catches();
        this.ways = new Ways();
        this.sheet = new Sheet();
        this.filling = new Filling();
    }

    public int feed(int a, int b, int c, int d, int e) {
        if (!tape.hasRoom(20)) {
            return NONE;
        }
        tape.take(a);
        tape.take(b);
        tape.take(c);
        tape.take(d);
        tape.take(e);
        return tape.length;
    }

    public int end(int n) {
        if (n < 0 || n > tape.length) {
            return NONE;
        }
        tape.length = n;
        return n;
    }

    public int text() {
        if (book.isFull()) {
            return NONE;
        }
        boolean taken = reader.readTape();
        tape.length = 0;
        if (!taken) {
            return NONE;
        }
        reader.tellAll();
        return book.time;
    }

    public int fault(int what) {
        if (what == 0) {
            return reader.fault;
        }
        return what == 1 ? reader.place : NONE;
    }

    public boolean look(int time) {
        if (time < 0 || time > book.time) {
            return false;
        }
        book.lookTime = time;
        return true;
    }

    public int beats(int letter) {
        Row row = book.rowSeen(letter);
        return row == null ? NONE : row.length;
    }

    public int thrown(int letter, int beat, int juggler, int k, int what) {
        Row row = book.rowSeen(letter);
        int cell = row == null ? NONE : row.cellAt(beat, juggler, k);
        if (cell == NONE) {
            return NONE;
        }
        if (what == 0) {
            return row.height(cell);
        }
        return what == 1 && row.isThrow(cell) ? row.target(cell) : NONE;
    }

    public int good(int letter, int what) {
        Row row = book.rowSeen(letter);
        if (row == null) {
            return NONE;
        }
        int bad = catches.badPlace(row);
        switch (what) {
            case 0:
                return bad == NONE ? 1 : 0;
            case 1:
                return bad == NONE ? NONE : row.beatOf(bad * HANDS);
            case 2:
                return bad == NONE ? NONE : row.jugglerOf(bad * HANDS);
            case 3:
                return bad == NONE ? row.balls() : NONE;
            case 4:
                return row.isPlain() ? 1 : 0;
            default:
                return NONE;
        }
    }

    public int cycles(int letter) {
        return catches.lead(book.rowSeen(letter)) ? catches.count : NONE;
    }

    public int cycle(int letter, int cycle, int what) {
        Row row = book.rowSeen(letter);
        if (row == null || !catches.lead(row) || cycle < 0 || cycle >= catches.count) {
            return NONE;
        }
        int first = catches.firstCell[cycle];
        switch (what) {
            case 0:
                return catches.size[cycle];
            case 1:
                return catches.period[cycle];
            case 2:
                return row.perRound(catches.period[cycle]);
            case 3:
                return row.beatOf(first);
            case 4:
                return row.jugglerOf(first);
            case 5:
                return row.numberOf(first);
            default:
                return NONE;
        }
    }

    public int cycleOf(int letter, int beat, int juggler, int k) {
        Row row = book.rowSeen(letter);
        if (row == null || !catches.lead(row)) {
            return NONE;
        }
        int cell = row.cellAt(beat, juggler, k);
        return cell == NONE ? NONE : catches.cycleAt[cell];
    }

    public int caught(int letter, int t, int juggler, int k, int what) {
        Row row = book.rowSeen(letter);
        if (row == null || t < 0 || t > LAST_PLAYED || !catches.lead(row)) {
            return NONE;
        }
        int cell = row.cellAt(row.beatInRound(t), juggler, k);
        if (cell == NONE || !row.isThrow(cell)) {
            return NONE;
        }
        if (what == 3) {
            return catches.ballOf(t, cell);
        }
        int from = catches.source[cell];
        int beat = t - row.height(from);
        if (beat < 0) {
            return NONE;
        }
        switch (what) {
            case 0:
                return beat;
            case 1:
                return row.jugglerOf(from);
            case 2:
                return row.numberOf(from);
            default:
                return NONE;
        }
    }

    public int state(int letter, int beat) {
        Row row = book.rowSeen(letter);
        if (!isPlainAndGood(row) || beat < 0 || beat >= row.length) {
            return NONE;
        }
        return Ways.stateOf(row, beat);
    }

    public int way(int from, int to, int i) {
        int steps = ways.find(from, to);
        if (i == NONE) {
            return steps;
        }
        return i < 0 || i >= steps ? NONE : ways.heights[i];
    }

    public int loops(int bits, int high, int steps) {
        if (bits < 0 || bits > 5 || high < 1 || high > 5 || steps < 1 || steps > 10) {
            return NONE;
        }
        return Ways.countLoops(bits, high, steps);
    }

    public int clear() {
        int had = sheet.length;
        sheet.length = 0;
        return had;
    }

    public int add(int letter, int times) {
        Row row = book.rowSeen(letter);
        if (!isPlainAndGood(row) || times < 1 || times > 50) {
            return NONE;
        }
        int begin = Ways.stateOf(row, 0);
        int steps = sheet.length == 0 ? 0 : ways.find(sheet.state, begin);
        if (steps == NONE || !sheet.hasRoom(steps + times * row.length)) {
            return NONE;
        }
        for (int i = 0; i < steps; i++) {
            sheet.write(ways.heights[i], NONE);
        }
        for (int i = 0; i < times; i++) {
            sheet.writeRow(row, letter);
        }
        sheet.state = begin;
        return sheet.length;
    }

    public int score(int i, int what) {
        if (i < 0 || i >= sheet.length) {
            return NONE;
        }
        if (what == 0) {
            return sheet.heights[i];
        }
        return what == 1 ? sheet.letters[i] : NONE;
    }

    public int seen(int what) {
        Marks marks = book.marksSeen();
        int count = marks == null ? 0 : marks.count;
        if (what == 0) {
            return count;
        }
        return what < 10 || what - 10 >= count ? NONE : marks.heights[what - 10];
    }

    public int whole(int balls, int i) {
        Marks marks = book.marksSeen();
        if (marks == null || balls < 0 || balls > HIGHEST) {
            return NONE;
        }
        int count = filling.fill(marks, balls);
        if (i == NONE) {
            return count;
        }
        return count == 0 || i < 0 || i >= marks.count ? NONE : filling.first[i];
    }

    public int drop(int letter, int cycles, int to) {
        Row row = book.rowSeen(letter);
        if (to < 0 || to >= LETTERS || book.isFull() || row == null || !catches.lead(row)) {
            return NONE;
        }
        // an int has 32 bits: of a row with more cycles only the first 32 can be named
        if (catches.count < 32 && cycles >>> catches.count != 0) {
            return NONE;
        }
        Row rest = catches.without(cycles);
        book.turnPage();
        book.writeRow(to, rest);
        return book.time;
    }

    public int turned(int first, int second) {
        Row one = book.rowSeen(first);
        Row other = book.rowSeen(second);
        if (one == null || other == null || one.length != other.length) {
            return NONE;
        }
        for (int d = 0; d < one.length; d++) {
            if (one.isTurned(other, d)) {
                return d;
            }
        }
        return NONE;
    }

    public int about(int what) {
        switch (what) {
            case 0:
                return jugglers;
            case 1:
                return book.time;
            case 2:
                return book.lookTime;
            case 3:
                return tape.length;
            case 4:
                return sheet.length;
            case 5:
                return book.lettersSeen();
            default:
                return NONE;
        }
    }

    private boolean isPlainAndGood(Row row) {
        return row != null && row.isPlain() && catches.badPlace(row) == NONE;
    }

    /** The bytes that were fed and not yet told. */
    private static final class Tape {
        private final int[] bytes = new int[MOST_BYTES];
        private int length;

        boolean hasRoom(int more) {
            return length + more <= bytes.length;
        }

        void take(int word) {
            for (int shift = 24; shift >= 0 && length < bytes.length; shift -= 8) {
                bytes[length] = word >>> shift & 255;
                length++;
            }
        }

        int byteAt(int at) {
            return at < 0 || at >= length ? NONE : bytes[at];
        }
    }

    /**
     * Beats with their throws. A cell stands for a throw by its beat, juggler and number, in this order; it holds
     * height * 4 + 3 - target (0: no throw), so that of two throws the one numbered first has the greater code.
     */
    private static final class Row {
        private final int jugglers;
        private final int width;
        private final int[] cells;
        private int length;

        Row(int jugglers, int capacity) {
            this.jugglers = Math.max(1, jugglers);
            this.width = this.jugglers * HANDS;
            this.cells = new int[Math.max(0, capacity) * this.width];
        }

        int cellCount() {
            return length * width;
        }

        int cellAt(int beat, int juggler, int number) {
            if (beat < 0 || beat >= length || juggler < 0 || juggler >= jugglers || number < 0 || number >= HANDS) {
                return NONE;
            }
            return beat * width + juggler * HANDS + number;
        }

        int code(int cell) {
            return cell < 0 || cell >= cells.length ? 0 : cells[cell];
        }

        boolean isThrow(int cell) {
            return cell >= 0 && cell < cells.length && cells[cell] != 0;
        }

        int height(int cell) {
            return cell < 0 || cell >= cells.length ? 0 : cells[cell] >> 2;
        }

        int target(int cell) {
            return cell < 0 || cell >= cells.length ? 0 : 3 - (cells[cell] & 3);
        }

        int beatOf(int cell) {
            return cell / width;
        }

        int jugglerOf(int cell) {
            return cell % width / HANDS;
        }

        int numberOf(int cell) {
            return cell % HANDS;
        }

        int beatInRound(int beat) {
            return length < 1 ? 0 : Math.floorMod(beat, length);
        }

        int perRound(int heights) {
            return length < 1 ? 0 : heights / length;
        }

        /** Where the throw of a cell lands; places are numbered by beats, then jugglers. */
        int landing(int cell) {
            return beatInRound(beatOf(cell) + height(cell)) * jugglers + target(cell);
        }

        int balls() {
            int sum = 0;
            for (int cell = 0; cell < cellCount(); cell++) {
                sum += height(cell);
            }
            return perRound(sum);
        }

        boolean isPlain() {
            if (jugglers != 1) {
                return false;
            }
            for (int beat = 0; beat < length; beat++) {
                if (cells[beat * width + 1] != 0) {
                    return false;
                }
            }
            return true;
        }

        boolean isTurned(Row other, int d) {
            for (int cell = 0; cell < cellCount(); cell++) {
                int from = other.beatInRound(beatOf(cell) + d) * width + cell % width;
                if (code(cell) != other.code(from)) {
                    return false;
                }
            }
            return true;
        }

        /** Makes it so many beats without throws. */
        void reset(int beats) {
            length = Math.max(0, Math.min(beats, cells.length / width));
            Arrays.fill(cells, 0);
        }

        /** Puts a throw in its order; false if the juggler has two on this beat already. */
        boolean put(int beat, int juggler, int height, int target) {
            if (height == 0) {
                return true;
            }
            int cell = beat * width + juggler * HANDS;
            if (cell < 0 || cell + 1 >= cells.length || cells[cell + 1] != 0) {
                return false;
            }
            int code = height * 4 + 3 - target;
            if (code > cells[cell]) {
                cells[cell + 1] = cells[cell];
                cells[cell] = code;
            } else {
                cells[cell + 1] = code;
            }
            return true;
        }

        /** Copies beats of a row behind its own ones; false, and nothing is done, if they would be too many. */
        boolean append(Row other, int from, int to) {
            int more = to - from;
            if (from < 0 || more < 0 || to > other.length || (length + more) * width > cells.length) {
                return false;
            }
            System.arraycopy(other.cells, from * width, cells, length * width, more * width);
            length += more;
            return true;
        }

        boolean takeFrom(Row other) {
            length = 0;
            return append(other, 0, other.length);
        }

        Row copy() {
            Row made = new Row(jugglers, length);
            made.takeFrom(this);
            return made;
        }

        /** Makes it the other one thrown back in time; false if somewhere three throws would meet. */
        boolean takeBack(Row other) {
            reset(other.length);
            for (int cell = 0; cell < other.cellCount(); cell++) {
                int height = other.height(cell);
                int beat = beatInRound(-(other.beatOf(cell) + height));
                if (!put(beat, other.target(cell), height, other.jugglerOf(cell))) {
                    return false;
                }
            }
            return true;
        }

        /** Makes it the other one with each juggler's throws, and to whom they go, given to the next juggler. */
        void takeOver(Row other) {
            reset(other.length);
            for (int cell = 0; cell < other.cellCount(); cell++) {
                int by = (other.jugglerOf(cell) + 1) % jugglers;
                int target = (other.target(cell) + 1) % jugglers;
                put(other.beatOf(cell), by, other.height(cell), target);
            }
        }

        /** Makes it the dual of the other one; false if that isn't plain. */
        boolean takeDual(Row other) {
            if (!other.isPlain()) {
                return false;
            }
            reset(other.length);
            for (int beat = 0; beat < other.length; beat++) {
                put(beatInRound(-beat), 0, HIGHEST - other.height(beat * HANDS), 0);
            }
            return true;
        }

        /** Makes it the other one begun d beats later. */
        void takeTurned(Row other, int d) {
            int begin = other.beatInRound(d);
            length = 0;
            append(other, begin, other.length);
            append(other, 0, begin);
        }
    }

    /** What was seen: heights, NONE where a mark is open. */
    private static final class Marks {
        private final int[] heights = new int[MOST_MARKS];
        private int count;

        boolean write(int height) {
            if (count >= heights.length) {
                return false;
            }
            heights[count] = height;
            count++;
            return true;
        }

        Marks copy() {
            Marks made = new Marks();
            for (int i = 0; i < count; i++) {
                made.write(heights[i]);
            }
            return made;
        }
    }

    /** A page for each time, with the rows and marks that hold then. */
    private static final class Book {
        private final Row[] rows = new Row[(LAST_TIME + 1) * LETTERS];
        private final Marks[] marks = new Marks[LAST_TIME + 1];
        private int time;
        private int lookTime;

        boolean isFull() {
            return time >= LAST_TIME;
        }

        /** A telling: a new page that begins as the latest one. */
        void turnPage() {
            if (isFull()) {
                return;
            }
            for (int letter = 0; letter < LETTERS; letter++) {
                rows[(time + 1) * LETTERS + letter] = rows[time * LETTERS + letter];
            }
            marks[time + 1] = marks[time];
            time++;
            lookTime = time;
        }

        void writeRow(int letter, Row row) {
            if (letter >= 0 && letter < LETTERS) {
                rows[time * LETTERS + letter] = row;
            }
        }

        void writeMarks(Marks told) {
            marks[time] = told;
        }

        Row rowSeen(int letter) {
            return rowAt(lookTime, letter);
        }

        Row rowLatest(int letter) {
            return rowAt(time, letter);
        }

        Marks marksSeen() {
            return marks[lookTime];
        }

        int lettersSeen() {
            int count = 0;
            for (int letter = 0; letter < LETTERS; letter++) {
                if (rowSeen(letter) != null) {
                    count++;
                }
            }
            return count;
        }

        private Row rowAt(int when, int letter) {
            return letter < 0 || letter >= LETTERS ? null : rows[when * LETTERS + letter];
        }
    }

    /** The tape's tokens; the kind of a sign is its byte. They are found all at once, and then come one by one. */
    private static final class Tokens {
        private static final int END = 0;
        private static final int BAD = 1;
        private static final int DIGIT = 2;
        private static final int LETTER = 3;
        private static final int ROW = 4;
        private static final int SEEN = 5;
        private static final int BACK = 6;
        private static final int OVER = 7;
        private static final int DUAL = 8;
        private static final int TURN = 9;
        private static final int TO = 10;
        private static final String SIGNS = "=;*()[]<>|?";

        private final Tape tape;
        private final int[] kinds = new int[MOST_BYTES + 1];
        private final int[] values = new int[MOST_BYTES + 1];
        private final int[] starts = new int[MOST_BYTES + 1];
        private int count;
        private int next;
        private int kind;
        private int value;
        private int start;
        private int lastStart;

        Tokens(Tape tape) {
            this.tape = tape;
        }

        /** Finds all tokens; the first one is the token then. */
        void begin() {
            count = 0;
            int at = 0;
            while (at < tape.length) {
                int sign = tape.byteAt(at);
                int from = at;
                at++;
                if (isLetter(sign)) {
                    while (at < tape.length && isLetter(tape.byteAt(at))) {
                        at++;
                    }
                    keep(wordKind(from, at), sign - 'A', from);
                } else if (sign != 32 && sign != 10) {
                    keep(signKind(sign), sign - '0', from);
                }
            }
            keep(END, 0, tape.length);
            next = 0;
            start = 0;
            advance();
        }

        /** The next token is the token then; behind the end comes the end again. */
        void advance() {
            lastStart = start;
            if (next < count) {
                kind = kinds[next];
                value = values[next];
                start = starts[next];
                next++;
            }
        }

        /** The value is meant for digits and letters alone. */
        private void keep(int found, int worth, int from) {
            if (count < kinds.length) {
                kinds[count] = found;
                values[count] = worth;
                starts[count] = from;
                count++;
            }
        }

        private static int signKind(int sign) {
            if (sign >= '0' && sign <= '9') {
                return DIGIT;
            }
            return SIGNS.indexOf((char) sign) >= 0 ? sign : BAD;
        }

        private int wordKind(int from, int to) {
            int sign = tape.byteAt(from);
            if (to - from == 1 && sign >= 'A' && sign < 'A' + LETTERS) {
                return LETTER;
            }
            if (spells("row", from, to)) {
                return ROW;
            }
            if (spells("seen", from, to)) {
                return SEEN;
            }
            if (spells("back", from, to)) {
                return BACK;
            }
            if (spells("over", from, to)) {
                return OVER;
            }
            if (spells("dual", from, to)) {
                return DUAL;
            }
            if (spells("turn", from, to)) {
                return TURN;
            }
            return spells("p", from, to) ? TO : BAD;
        }

        private boolean spells(String word, int from, int to) {
            if (to - from != word.length()) {
                return false;
            }
            for (int i = 0; i < word.length(); i++) {
                if (tape.byteAt(from + i) != word.charAt(i)) {
                    return false;
                }
            }
            return true;
        }

        private static boolean isLetter(int sign) {
            return sign >= 'a' && sign <= 'z' || sign >= 'A' && sign <= 'Z';
        }
    }

    /** Reads the tape as a text; its rows and marks are kept here until the text is taken. */
    private static final class Reader {
        private static final int CANNOT_STAND = 1;
        private static final int WRONG_DIGIT = 2;
        private static final int TOO_DEEP = 3;
        private static final int TOO_LONG = 4;
        private static final int CANNOT_CHANGE = 5;
        private static final int NO_ROW = 6;
        private static final int DEEPEST = 5;

        private final int jugglers;
        private final Tokens tokens;
        private final Book book;
        private final Row[] levels = new Row[DEEPEST + 1];
        private final int[] turns = new int[DEEPEST + 1];
        private final Row[] here = new Row[LETTERS];
        private final Row beat;
        private final Row changed;
        private final Marks marks = new Marks();
        private int fault = NONE;
        private int place = NONE;

        Reader(int jugglers, Tokens tokens, Book book) {
            this.jugglers = jugglers;
            this.tokens = tokens;
            this.book = book;
            for (int depth = 0; depth < levels.length; depth++) {
                levels[depth] = new Row(jugglers, MOST_BEATS);
            }
            for (int letter = 0; letter < here.length; letter++) {
                here[letter] = new Row(jugglers, MOST_BEATS);
            }
            beat = new Row(jugglers, 1);
            changed = new Row(jugglers, MOST_BEATS);
        }

        boolean readTape() {
            fault = 0;
            place = NONE;
            marks.count = 0;
            for (int letter = 0; letter < here.length; letter++) {
                here[letter].length = 0;
            }
            tokens.begin();
            for (int i = 0; i <= MOST_BYTES && tokens.kind != Tokens.END; i++) {
                boolean taken = tokens.kind == Tokens.ROW ? readRow()
                        : tokens.kind == Tokens.SEEN ? readMarks() : fail(CANNOT_STAND);
                if (!taken) {
                    return false;
                }
            }
            return true;
        }

        void tellAll() {
            book.turnPage();
            for (int letter = 0; letter < here.length; letter++) {
                if (here[letter].length > 0) {
                    book.writeRow(letter, here[letter].copy());
                }
            }
            if (marks.count > 0) {
                book.writeMarks(marks.copy());
            }
        }

        private boolean fail(int why) {
            fault = why;
            place = tokens.start;
            return false;
        }

        /** A fault at the token that came last: one that ends a ONE is known only behind it. */
        private boolean failBehind(int why) {
            fault = why;
            place = tokens.lastStart;
            return false;
        }

        private boolean expect(int kind) {
            if (tokens.kind != kind) {
                return fail(CANNOT_STAND);
            }
            tokens.advance();
            return true;
        }

        private boolean readRow() {
            tokens.advance();
            int letter = tokens.value;
            if (!expect(Tokens.LETTER) || !expect('=') || !readSequence(0) || !expect(';')) {
                return false;
            }
            return letter >= 0 && letter < LETTERS && here[letter].takeFrom(levels[0]);
        }

        private boolean readMarks() {
            tokens.advance();
            marks.count = 0;
            for (int i = 0; i <= MOST_MARKS && (tokens.kind == Tokens.DIGIT || tokens.kind == '?'); i++) {
                if (!marks.write(tokens.kind == Tokens.DIGIT ? tokens.value : NONE)) {
                    return fail(TOO_LONG);
                }
                tokens.advance();
            }
            return marks.count > 0 ? expect(';') : fail(CANNOT_STAND);
        }

        private boolean readSequence(int depth) {
            if (depth < 0 || depth > DEEPEST) {
                return fail(TOO_DEEP);
            }
            Row row = levels[depth];
            row.length = 0;
            for (int i = 0; i <= MOST_BYTES && (i == 0 || beginsOne()); i++) {
                int from = row.length;
                if (!readOne(depth) || !readTimes(row, from)) {
                    return false;
                }
            }
            return true;
        }

        private boolean beginsOne() {
            switch (tokens.kind) {
                case Tokens.LETTER:
                case Tokens.BACK:
                case Tokens.OVER:
                case Tokens.DUAL:
                case Tokens.TURN:
                case '(':
                    return true;
                case Tokens.DIGIT:
                case '[':
                    return jugglers == 1;
                case '<':
                    return jugglers > 1;
                default:
                    return false;
            }
        }

        private boolean readOne(int depth) {
            if (!beginsOne()) {
                return fail(CANNOT_STAND);
            }
            int how = tokens.kind;
            switch (how) {
                case Tokens.LETTER:
                    return readLetter(levels[depth]);
                case Tokens.DIGIT:
                case '[':
                case '<':
                    return readBeat(levels[depth]);
                default:
                    return openGroup(how, depth) && readSequence(depth + 1) && expect(')')
                            && joinGroup(how, depth);
            }
        }

        /** Perhaps * and a digit: the beats from one on are there so many times. */
        private boolean readTimes(Row row, int from) {
            if (tokens.kind != '*') {
                return true;
            }
            tokens.advance();
            if (tokens.kind != Tokens.DIGIT) {
                return fail(CANNOT_STAND);
            }
            if (tokens.value == 0) {
                return fail(WRONG_DIGIT);
            }
            int to = row.length;
            for (int i = 1; i < tokens.value; i++) {
                if (!row.append(row, from, to)) {
                    return fail(TOO_LONG);
                }
            }
            tokens.advance();
            return true;
        }

        private boolean readLetter(Row row) {
            int letter = tokens.value;
            if (letter < 0 || letter >= LETTERS) {
                return fail(CANNOT_STAND);
            }
            Row named = here[letter].length > 0 ? here[letter] : book.rowLatest(letter);
            if (named == null) {
                return fail(NO_ROW);
            }
            tokens.advance();
            return row.append(named, 0, named.length) || failBehind(TOO_LONG);
        }

        /** All ahead of a group's sequence: back, over, dual, turn and its digit or nothing, then the bracket. */
        private boolean openGroup(int how, int depth) {
            if (how != '(') {
                tokens.advance();
            }
            if (how == Tokens.TURN) {
                turns[depth] = tokens.value;
                if (!expect(Tokens.DIGIT)) {
                    return false;
                }
            }
            if (tokens.kind == '(' && depth >= DEEPEST) {
                return fail(TOO_DEEP);
            }
            return expect('(');
        }

        private boolean joinGroup(int how, int depth) {
            Row row = levels[depth];
            Row inner = levels[depth + 1];
            // the length is looked at first: of two faults at the ) the lesser one counts
            if (row.length + inner.length > MOST_BEATS) {
                return failBehind(TOO_LONG);
            }
            boolean fits = true;
            switch (how) {
                case Tokens.BACK:
                    fits = changed.takeBack(inner);
                    break;
                case Tokens.OVER:
                    changed.takeOver(inner);
                    break;
                case Tokens.DUAL:
                    fits = changed.takeDual(inner);
                    break;
                case Tokens.TURN:
                    changed.takeTurned(inner, turns[depth]);
                    break;
                default:
                    changed.takeFrom(inner);
            }
            return fits ? row.append(changed, 0, changed.length) : failBehind(CANNOT_CHANGE);
        }

        private boolean readBeat(Row row) {
            beat.reset(1);
            for (int juggler = 0; juggler < jugglers; juggler++) {
                if (jugglers > 1 && !expect(juggler == 0 ? '<' : '|')) {
                    return false;
                }
                boolean both = tokens.kind == '[';
                if (both) {
                    tokens.advance();
                }
                if (!readThrow(juggler) || both && !(readThrow(juggler) && expect(']'))) {
                    return false;
                }
            }
            if (jugglers > 1 && !expect('>')) {
                return false;
            }
            return row.append(beat, 0, 1) || failBehind(TOO_LONG);
        }

        private boolean readThrow(int juggler) {
            if (tokens.kind != Tokens.DIGIT) {
                return fail(CANNOT_STAND);
            }
            int height = tokens.value;
            int target = juggler;
            tokens.advance();
            if (tokens.kind == Tokens.TO) {
                tokens.advance();
                if (tokens.kind != Tokens.DIGIT) {
                    return fail(CANNOT_STAND);
                }
                target = tokens.value;
                if (target >= jugglers) {
                    return fail(WRONG_DIGIT);
                }
                tokens.advance();
            }
            return beat.put(0, juggler, height, target);
        }
    }

    /** Which throw is caught for which in a good row, and the cycles that come of it. */
    private static final class Catches {
        private final int[] surplus = new int[MOST_PLACES];
        private final int[] source = new int[MOST_CELLS];
        private final int[] cycleAt = new int[MOST_CELLS];
        private final int[] firstCell = new int[MOST_CELLS];
        private final int[] size = new int[MOST_CELLS];
        private final int[] period = new int[MOST_CELLS];
        private int count;
        private Row row;

        /** The first place where not as many land as are thrown; NONE if the row is good. */
        int badPlace(Row of) {
            Arrays.fill(surplus, 0);
            int cells = Math.min(MOST_CELLS, of.cellCount());
            for (int cell = 0; cell < cells; cell++) {
                if (of.isThrow(cell)) {
                    surplus[cell / HANDS]++;
                    surplus[of.landing(cell)]--;
                }
            }
            for (int place = 0; place < surplus.length; place++) {
                if (surplus[place] != 0) {
                    return place;
                }
            }
            return NONE;
        }

        /** Leads each catch of a row; false if there is none or it is not good. */
        boolean lead(Row of) {
            if (of == null || badPlace(of) != NONE) {
                return false;
            }
            row = of;
            Arrays.fill(source, NONE);
            Arrays.fill(cycleAt, NONE);
            count = 0;
            for (int cell = 0; cell < row.cellCount(); cell++) {
                if (row.isThrow(cell)) {
                    land(cell, row.landing(cell) * HANDS);
                }
            }
            for (int cell = 0; cell < row.cellCount(); cell++) {
                if (row.isThrow(cell) && cycleAt[cell] == NONE) {
                    follow(cell);
                }
            }
            return true;
        }

        private void land(int cell, int at) {
            if (source[at] == NONE) {
                source[at] = cell;
            } else if (rank(cell) > rank(source[at])) {
                source[at + 1] = source[at];
                source[at] = cell;
            } else {
                source[at + 1] = cell;
            }
        }

        /** Of throws that land together the greater rank is caught first. */
        private int rank(int cell) {
            return row.height(cell) * MOST_CELLS - cell % row.width;
        }

        private void follow(int first) {
            firstCell[count] = first;
            size[count] = 0;
            period[count] = 0;
            int cell = first;
            for (int i = 0; i < MOST_CELLS && cell != NONE && cycleAt[cell] == NONE; i++) {
                cycleAt[cell] = count;
                size[count]++;
                period[count] += row.height(cell);
                cell = source[cell];
            }
            count++;
        }

        /** The ball of a throw on a played beat: how many balls are thrown first ahead of its own first throw. */
        int ballOf(int t, int cell) {
            int beat = t;
            int at = cell;
            for (int i = 0; i <= LAST_PLAYED && at >= 0 && !isStart(beat, at); i++) {
                at = source[at];
                beat -= row.height(at);
            }
            int ball = 0;
            for (int early = 0; early <= beat; early++) {
                int begin = row.beatInRound(early) * row.width;
                int end = early < beat ? begin + row.width : at;
                for (int other = begin; other < end; other++) {
                    if (isStart(early, other)) {
                        ball++;
                    }
                }
            }
            return ball;
        }

        private boolean isStart(int beat, int cell) {
            return row.isThrow(cell) && row.height(source[cell]) > beat;
        }

        /** The row that was led, without the throws of some cycles. */
        Row without(int cycles) {
            Row made = new Row(row.jugglers, row.length);
            made.reset(row.length);
            for (int cell = 0; cell < row.cellCount(); cell++) {
                int cycle = cycleAt[cell];
                boolean dropped = cycle >= 0 && cycle < 32 && (cycles >>> cycle & 1) == 1;
                if (!dropped) {
                    made.put(row.beatOf(cell), row.jugglerOf(cell), row.height(cell), row.target(cell));
                }
            }
            return made;
        }
    }

    /** States, the steps between them and the shortest ways. */
    private static final class Ways {
        private static final int STATES = 512;

        private final int[] before = new int[STATES];
        private final int[] heightTo = new int[STATES];
        private final int[] queue = new int[STATES];
        private final int[] heights = new int[STATES];

        static int stateOf(Row row, int beat) {
            int state = 0;
            for (int ago = 1; ago <= HIGHEST; ago++) {
                int height = row.height(row.cellAt(row.beatInRound(beat - ago), 0, 0));
                if (height >= ago) {
                    state |= 1 << height - ago;
                }
            }
            return state;
        }

        /** The state behind a step; NONE if the step can't be. */
        private static int after(int state, int height) {
            int lower = state >> 1;
            if ((state & 1) == 0) {
                return height == 0 ? lower : NONE;
            }
            if (height < 1 || height > HIGHEST || (lower >> height - 1 & 1) == 1) {
                return NONE;
            }
            return lower | 1 << height - 1;
        }

        /** How many steps the way has, whose heights it leaves behind; NONE without a way. */
        int find(int from, int to) {
            if (from < 0 || from >= STATES || to < 0 || to >= STATES) {
                return NONE;
            }
            if (Integer.bitCount(from) != Integer.bitCount(to)) {
                return NONE;
            }
            spread(from);
            return before[to] == NONE ? NONE : trace(from, to);
        }

        /** Broad search, low heights first: it comes to each state first by the way that is first by heights. */
        private void spread(int from) {
            Arrays.fill(before, NONE);
            before[from] = from;
            queue[0] = from;
            int known = 1;
            for (int i = 0; i < known && i < STATES; i++) {
                for (int height = 0; height <= HIGHEST; height++) {
                    int state = after(queue[i], height);
                    if (state != NONE && before[state] == NONE && known < STATES) {
                        before[state] = queue[i];
                        heightTo[state] = height;
                        queue[known] = state;
                        known++;
                    }
                }
            }
        }

        private int trace(int from, int to) {
            int steps = 0;
            for (int state = to; state != from && steps < STATES; state = before[state]) {
                steps++;
            }
            int state = to;
            for (int i = steps - 1; i >= 0; i--) {
                heights[i] = heightTo[state];
                state = before[state];
            }
            return steps;
        }

        static int countLoops(int bits, int high, int steps) {
            int count = 0;
            for (int start = 0; start < 1 << high; start++) {
                if (Integer.bitCount(start) == bits) {
                    count += loopsOn(start, start, 1 << start, high, steps);
                }
            }
            return count;
        }

        /** Loops are counted from their least state alone, so that turned ones are one. */
        private static int loopsOn(int start, int state, int visited, int high, int left) {
            int count = 0;
            for (int height = 0; height <= high; height++) {
                int next = after(state, height);
                if (next == start && left == 1) {
                    count++;
                }
                if (next > start && left > 1 && (visited >> next & 1) == 0) {
                    count += loopsOn(start, next, visited | 1 << next, high, left - 1);
                }
            }
            return count;
        }
    }

    /** The score: heights with the letters that they are of. */
    private static final class Sheet {
        private static final int MOST_HEIGHTS = 300;

        private final int[] heights = new int[MOST_HEIGHTS];
        private final int[] letters = new int[MOST_HEIGHTS];
        private int length;
        private int state;

        boolean hasRoom(int more) {
            return length + more <= MOST_HEIGHTS;
        }

        void write(int height, int letter) {
            if (length < MOST_HEIGHTS) {
                heights[length] = height;
                letters[length] = letter;
                length++;
            }
        }

        void writeRow(Row row, int letter) {
            for (int beat = 0; beat < row.length; beat++) {
                write(row.height(row.cellAt(beat, 0, 0)), letter);
            }
        }
    }

    /** Marks made whole: counted by which beats are landed on and how much height is left, from the last mark on. */
    private static final class Filling {
        private static final int RESTS = MOST_MARKS * HIGHEST + 1;
        private static final int SETS = 1 << MOST_MARKS;

        private final int[] counts = new int[SETS * RESTS];
        private final int[] first = new int[MOST_MARKS];

        /** How many rows there are; the heights of the first one are left behind. */
        int fill(Marks marks, int balls) {
            if (marks.count < 1 || marks.count > MOST_MARKS || balls < 0 || balls > HIGHEST) {
                return 0;
            }
            int all = balls * marks.count;
            int full = (1 << marks.count) - 1;
            Arrays.fill(counts, 0, (full + 1) * RESTS, 0);
            counts[full * RESTS] = 1;
            for (int landed = full - 1; landed >= 0; landed--) {
                countFrom(marks, landed, all);
            }
            if (counts[all] > 0) {
                choose(marks, all);
            }
            return counts[all];
        }

        private void countFrom(Marks marks, int landed, int all) {
            int mark = Integer.bitCount(landed);
            int most = Math.min(all, (marks.count - mark) * HIGHEST);
            for (int height = 0; height <= HIGHEST; height++) {
                int next = landedAfter(marks, mark, height, landed);
                if (next == NONE) {
                    continue;
                }
                for (int rest = height; rest <= most; rest++) {
                    counts[landed * RESTS + rest] += counts[next * RESTS + rest - height];
                }
            }
        }

        private void choose(Marks marks, int all) {
            int landed = 0;
            int rest = all;
            for (int mark = 0; mark < marks.count && landed != NONE; mark++) {
                first[mark] = leastThatFits(marks, mark, landed, rest);
                rest -= first[mark];
                landed = landedAfter(marks, mark, first[mark], landed);
            }
        }

        private int leastThatFits(Marks marks, int mark, int landed, int rest) {
            for (int height = 0; height <= HIGHEST && height <= rest; height++) {
                int next = landedAfter(marks, mark, height, landed);
                if (next != NONE && counts[next * RESTS + rest - height] > 0) {
                    return height;
                }
            }
            return 0;
        }

        /** The beats landed on with one throw more; NONE if the mark is another or the beat is taken. */
        private static int landedAfter(Marks marks, int mark, int height, int landed) {
            int known = marks.heights[mark];
            int bit = 1 << (mark + height) % marks.count;
            return known != NONE && known != height || (landed & bit) != 0 ? NONE : landed | bit;
        }
    }
}
