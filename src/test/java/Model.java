import java.util.ArrayList;
import java.util.Arrays;
import java.util.Collections;
import java.util.Comparator;
import java.util.HashMap;
import java.util.List;
import java.util.Map;
import java.util.TreeMap;
import java.util.regex.Matcher;
import java.util.regex.Pattern;

/**
 * The document once more, written slowly and by other means than the class: rows are lists, catches are played out
 * beat by beat, ways and whole rows are found by trying all of them. SessionTest holds the class against it.
 */
final class Model {
    static final int NONE = -1;

    record Throw(int height, int to) { }

    record Hit(int beat, int by, int number, int height) { }

    private static final Pattern TOKEN = Pattern.compile("[A-Za-z]+|[0-9]|[=;*()\\[\\]<>|?]|[ \\n]|.", Pattern.DOTALL);

    private static final class Fault extends RuntimeException {
        private static final long serialVersionUID = 1L;
        final int why;
        final int where;

        Fault(int why, int where) {
            this.why = why;
            this.where = where;
        }
    }

    /** Beats; on each one a list of throws for each juggler. */
    static final class Line {
        final List<List<List<Throw>>> beats = new ArrayList<>();
        boolean broken = false;

        int size() {
            return beats.size();
        }

        List<Throw> at(int beat, int juggler) {
            return beats.get(Math.floorMod(beat, size())).get(juggler);
        }
    }

    private final int jugglers;
    private String tape = "";
    private final List<Map<Character, Line>> tellings = new ArrayList<>();
    private final List<String> seenTellings = new ArrayList<>();
    private int look = 0;
    private int[] fault = {NONE, NONE};
    private final List<int[]> score = new ArrayList<>();
    private int scoreState = 0;

    Model(int jugglers) {
        this.jugglers = jugglers < 1 ? 1 : jugglers > 3 ? 3 : jugglers;
        tellings.add(new TreeMap<>());
        seenTellings.add(null);
    }

    private int time() {
        return tellings.size() - 1;
    }

    private Line lineAt(int letter, int when) {
        for (int t = when; t >= 0; t--) {
            Line line = tellings.get(t).get((char) ('A' + letter));
            if (line != null && letter >= 0 && letter < 8) {
                return line;
            }
        }
        return null;
    }

    private Line line(int letter) {
        return letter < 0 || letter > 7 ? null : lineAt(letter, look);
    }

    private String marks() {
        for (int t = look; t >= 0; t--) {
            if (seenTellings.get(t) != null) {
                return seenTellings.get(t);
            }
        }
        return "";
    }

    private void tell(Map<Character, Line> lines, String marks) {
        tellings.add(lines);
        seenTellings.add(marks);
        look = time();
    }

    // ---- the tape and its texts

    int feed(int... words) {
        if (tape.length() + 20 > 300) {
            return NONE;
        }
        StringBuilder more = new StringBuilder(tape);
        for (int word : words) {
            for (byte b : java.nio.ByteBuffer.allocate(4).putInt(word).array()) {
                more.append((char) (b & 255));
            }
        }
        tape = more.toString();
        return tape.length();
    }

    int end(int n) {
        if (n < 0 || n > tape.length()) {
            return NONE;
        }
        tape = tape.substring(0, n);
        return n;
    }

    private List<String> words;
    private List<Integer> places;
    private int at;
    private Map<Character, Line> here;

    int text() {
        if (time() == 60) {
            return NONE;
        }
        String text = tape;
        tape = "";
        words = new ArrayList<>();
        places = new ArrayList<>();
        Matcher matcher = TOKEN.matcher(text);
        while (matcher.find()) {
            if (!matcher.group().equals(" ") && !matcher.group().equals("\n")) {
                words.add(matcher.group());
                places.add(matcher.start());
            }
        }
        words.add("");
        places.add(text.length());
        at = 0;
        here = new HashMap<>();
        String marks = null;
        try {
            while (!word().equals("")) {
                if (word().equals("row")) {
                    at++;
                    char letter = letter();
                    must("=");
                    Line line = seq(0);
                    must(";");
                    here.put(letter, line);
                } else {
                    must("seen");
                    marks = readMarks();
                    must(";");
                }
            }
        } catch (Fault found) {
            fault = new int[] {found.why, found.where};
            return NONE;
        }
        fault = new int[] {0, NONE};
        tell(here, marks);
        return time();
    }

    private String word() {
        return words.get(at);
    }

    private Fault wrong(int why) {
        return new Fault(why, places.get(at));
    }

    private void must(String word) {
        if (!word().equals(word)) {
            throw wrong(1);
        }
        at++;
    }

    private boolean isDigit() {
        return word().matches("[0-9]");
    }

    private int digit() {
        if (!isDigit()) {
            throw wrong(1);
        }
        return Integer.parseInt(words.get(at++));
    }

    private char letter() {
        if (!word().matches("[A-H]")) {
            throw wrong(1);
        }
        return words.get(at++).charAt(0);
    }

    private String readMarks() {
        StringBuilder marks = new StringBuilder();
        while (isDigit() || word().equals("?")) {
            if (marks.length() == 7) {
                throw wrong(4);
            }
            marks.append(words.get(at++));
        }
        if (marks.length() == 0) {
            throw wrong(1);
        }
        return marks.toString();
    }

    private Line seq(int open) {
        Line all = new Line();
        do {
            Line one = one(open);
            int last = places.get(at - 1);
            if (all.size() + one.size() > 24) {
                throw new Fault(4, last);
            }
            if (one.broken) {
                throw new Fault(5, last);
            }
            int times = 1;
            if (word().equals("*")) {
                at++;
                times = digit();
                if (times == 0) {
                    throw new Fault(2, places.get(at - 1));
                }
                if (all.size() + one.size() * times > 24) {
                    throw new Fault(4, places.get(at - 1));
                }
            }
            for (int i = 0; i < times; i++) {
                all.beats.addAll(one.beats);
            }
        } while (!word().equals(")") && !word().equals(";"));
        return all;
    }

    private Line one(int open) {
        if (word().matches("[A-H]")) {
            Line line = here.containsKey(word().charAt(0)) ? here.get(word().charAt(0))
                    : lineAt(word().charAt(0) - 'A', time());
            if (line == null) {
                throw wrong(6);
            }
            at++;
            return line;
        }
        if (!word().matches("back|over|dual|turn|\\(")) {
            return beat();
        }
        String how = word();
        int d = 0;
        if (!how.equals("(")) {
            at++;
        }
        if (how.equals("turn")) {
            d = digit();
        }
        if (word().equals("(") && open == 5) {
            throw wrong(3);
        }
        must("(");
        Line inner = seq(open + 1);
        must(")");
        return changed(inner, how, d);
    }

    private Line beat() {
        List<List<Throw>> all = new ArrayList<>();
        if (jugglers == 1) {
            all.add(hands(0));
        } else {
            must("<");
            all.add(hands(0));
            for (int j = 1; j < jugglers; j++) {
                must("|");
                all.add(hands(j));
            }
            must(">");
        }
        Line line = new Line();
        line.beats.add(all);
        return line;
    }

    private List<Throw> hands(int juggler) {
        List<Throw> all = new ArrayList<>();
        if (word().equals("[")) {
            at++;
            oneThrow(juggler, all);
            oneThrow(juggler, all);
            must("]");
        } else {
            oneThrow(juggler, all);
        }
        sort(all);
        return all;
    }

    private void oneThrow(int juggler, List<Throw> all) {
        int height = digit();
        int to = juggler;
        if (word().equals("p")) {
            at++;
            to = digit();
            if (to >= jugglers) {
                throw new Fault(2, places.get(at - 1));
            }
        }
        if (height > 0) {
            all.add(new Throw(height, to));
        }
    }

    private static void sort(List<Throw> all) {
        all.sort(Comparator.comparingInt((Throw one) -> -one.height()).thenComparingInt(Throw::to));
    }

    private Line emptyLine(int n) {
        Line made = new Line();
        for (int i = 0; i < n; i++) {
            List<List<Throw>> beat = new ArrayList<>();
            for (int j = 0; j < jugglers; j++) {
                beat.add(new ArrayList<>());
            }
            made.beats.add(beat);
        }
        return made;
    }

    private Line changed(Line inner, String how, int d) {
        int n = inner.size();
        Line made = emptyLine(n);
        if (how.equals("dual") && !isPlain(inner)) {
            made.broken = true;
            return made;
        }
        for (int i = 0; i < n; i++) {
            if (how.equals("dual")) {
                int height = 9 - (inner.at(i, 0).isEmpty() ? 0 : inner.at(i, 0).get(0).height());
                if (height > 0) {
                    made.at(-i, 0).add(new Throw(height, 0));
                }
                continue;
            }
            for (int k = 0; k < jugglers; k++) {
                for (Throw one : inner.at(i, k)) {
                    if (how.equals("back")) {
                        made.at(-(i + one.height()), one.to()).add(new Throw(one.height(), k));
                    } else if (how.equals("over")) {
                        made.at(i, (k + 1) % jugglers).add(new Throw(one.height(), (one.to() + 1) % jugglers));
                    } else {
                        made.at(i - d, k).add(one);
                    }
                }
            }
        }
        for (int i = 0; i < n; i++) {
            for (int k = 0; k < jugglers; k++) {
                made.broken |= made.at(i, k).size() > 2;
                sort(made.at(i, k));
            }
        }
        return made;
    }

    private boolean isPlain(Line line) {
        if (jugglers > 1) {
            return false;
        }
        for (int i = 0; i < line.size(); i++) {
            if (line.at(i, 0).size() > 1) {
                return false;
            }
        }
        return true;
    }

    // ---- rows

    int fault(int what) {
        return what == 0 || what == 1 ? fault[what] : NONE;
    }

    boolean look(int time) {
        if (time < 0 || time > time()) {
            return false;
        }
        look = time;
        return true;
    }

    int beats(int letter) {
        return line(letter) == null ? NONE : line(letter).size();
    }

    private Throw throwAt(Line line, int beat, int juggler, int k) {
        if (beat < 0 || juggler < 0 || juggler >= jugglers || k < 0) {
            return null;
        }
        return k < line.at(beat, juggler).size() ? line.at(beat, juggler).get(k) : null;
    }

    int thrown(int letter, int beat, int juggler, int k, int what) {
        Line line = line(letter);
        if (line == null || beat < 0 || beat >= line.size() || juggler < 0 || juggler >= jugglers || k < 0 || k > 1) {
            return NONE;
        }
        Throw found = throwAt(line, beat, juggler, k);
        return what == 0 ? found == null ? 0 : found.height() : what == 1 && found != null ? found.to() : NONE;
    }

    private int[] badPlace(Line line) {
        for (int beat = 0; beat < line.size(); beat++) {
            for (int j = 0; j < jugglers; j++) {
                int land = 0;
                for (int i = 0; i < line.size(); i++) {
                    for (int k = 0; k < jugglers; k++) {
                        for (Throw one : line.at(i, k)) {
                            land += (i + one.height()) % line.size() == beat && one.to() == j ? 1 : 0;
                        }
                    }
                }
                if (land != line.at(beat, j).size()) {
                    return new int[] {beat, j};
                }
            }
        }
        return null;
    }

    private int heightsOf(Line line) {
        int sum = 0;
        for (int i = 0; i < line.size(); i++) {
            for (int j = 0; j < jugglers; j++) {
                for (Throw one : line.at(i, j)) {
                    sum += one.height();
                }
            }
        }
        return sum;
    }

    int good(int letter, int what) {
        Line line = line(letter);
        if (line == null || what < 0 || what > 4) {
            return NONE;
        }
        int[] bad = badPlace(line);
        return switch (what) {
            case 0 -> bad == null ? 1 : 0;
            case 1 -> bad == null ? NONE : bad[0];
            case 2 -> bad == null ? NONE : bad[1];
            case 3 -> bad == null ? heightsOf(line) / line.size() : NONE;
            default -> isPlain(line) ? 1 : 0;
        };
    }

    private boolean isGood(Line line) {
        return line != null && badPlace(line) == null;
    }

    // ---- catches

    /** The throw that is caught for one, found among all that land there when the row has always been played. */
    private Hit from(Line line, int t, int juggler, int k) {
        List<Hit> hits = new ArrayList<>();
        for (int beat = t - 9; beat < t; beat++) {
            for (int j = 0; j < jugglers; j++) {
                for (int number = 0; number < line.at(beat, j).size(); number++) {
                    Throw one = line.at(beat, j).get(number);
                    if (beat + one.height() == t && one.to() == juggler) {
                        hits.add(new Hit(beat, j, number, one.height()));
                    }
                }
            }
        }
        hits.sort(Comparator.comparingInt((Hit hit) -> -hit.height()).thenComparingInt(Hit::by)
                .thenComparingInt(Hit::number));
        return hits.get(k);
    }

    /** Cycles as lists of {beat, juggler, number, height}. */
    private List<List<int[]>> allCycles(Line line) {
        List<List<int[]>> all = new ArrayList<>();
        for (int i = 0; i < line.size(); i++) {
            for (int j = 0; j < jugglers; j++) {
                for (int k = 0; k < line.at(i, j).size(); k++) {
                    if (find(all, i, j, k) != NONE) {
                        continue;
                    }
                    List<int[]> cycle = new ArrayList<>();
                    int beat = i;
                    int by = j;
                    int number = k;
                    do {
                        int height = line.at(beat, by).get(number).height();
                        cycle.add(new int[] {Math.floorMod(beat, line.size()), by, number, height});
                        Hit hit = from(line, beat, by, number);
                        beat = hit.beat();
                        by = hit.by();
                        number = hit.number();
                    } while (Math.floorMod(beat, line.size()) != i || by != j || number != k);
                    all.add(cycle);
                }
            }
        }
        return all;
    }

    private static int find(List<List<int[]>> all, int beat, int juggler, int k) {
        for (int c = 0; c < all.size(); c++) {
            for (int[] one : all.get(c)) {
                if (one[0] == beat && one[1] == juggler && one[2] == k) {
                    return c;
                }
            }
        }
        return NONE;
    }

    int cycles(int letter) {
        return isGood(line(letter)) ? allCycles(line(letter)).size() : NONE;
    }

    int cycle(int letter, int cycle, int what) {
        if (!isGood(line(letter))) {
            return NONE;
        }
        List<List<int[]>> all = allCycles(line(letter));
        if (cycle < 0 || cycle >= all.size() || what < 0 || what > 5) {
            return NONE;
        }
        List<int[]> one = all.get(cycle);
        int period = one.stream().mapToInt(part -> part[3]).sum();
        return switch (what) {
            case 0 -> one.size();
            case 1 -> period;
            case 2 -> period / line(letter).size();
            default -> one.get(0)[what - 3];
        };
    }

    int cycleOf(int letter, int beat, int juggler, int k) {
        return isGood(line(letter)) ? find(allCycles(line(letter)), beat, juggler, k) : NONE;
    }

    int caught(int letter, int t, int juggler, int k, int what) {
        Line line = line(letter);
        if (!isGood(line) || t < 0 || t > 999 || throwAt(line, t, juggler, k) == null || what < 0 || what > 3) {
            return NONE;
        }
        if (what == 3) {
            return ball(line, t, juggler, k);
        }
        Hit hit = from(line, t, juggler, k);
        if (hit.beat() < 0) {
            return NONE;
        }
        return what == 0 ? hit.beat() : what == 1 ? hit.by() : hit.number();
    }

    /** Plays on from beat 0 and gives each ball of the start the next number. */
    private int ball(Line line, int t, int juggler, int k) {
        Map<List<Integer>, Integer> balls = new HashMap<>();
        int next = 0;
        for (int beat = 0; beat <= t; beat++) {
            for (int j = 0; j < jugglers; j++) {
                for (int number = 0; number < line.at(beat, j).size(); number++) {
                    Hit hit = from(line, beat, j, number);
                    int ball = hit.beat() < 0 ? next++ : balls.get(List.of(hit.beat(), hit.by(), hit.number()));
                    balls.put(List.of(beat, j, number), ball);
                }
            }
        }
        return balls.get(List.of(t, juggler, k));
    }

    // ---- states

    private int stateOf(Line line, int beat) {
        int state = 0;
        for (int earlier = beat - 9; earlier < beat; earlier++) {
            for (Throw one : line.at(earlier, 0)) {
                int ahead = earlier + one.height() - beat;
                state |= ahead >= 0 ? 1 << ahead : 0;
            }
        }
        return state;
    }

    int state(int letter, int beat) {
        Line line = line(letter);
        return isGood(line) && isPlain(line) && beat >= 0 && beat < line.size() ? stateOf(line, beat) : NONE;
    }

    private static int step(int state, int height) {
        if (state % 2 == 0) {
            return height == 0 ? state / 2 : NONE;
        }
        if (height == 0) {
            return NONE;
        }
        int bit = (int) Math.pow(2, height - 1);
        return (state / 2 & bit) == 0 ? state / 2 + bit : NONE;
    }

    /** Tries all ways of each length, from the lowest heights on. */
    private static List<Integer> wayOf(int from, int to) {
        if (Integer.bitCount(from) != Integer.bitCount(to)) {
            return null;
        }
        for (int length = 0; length < 12; length++) {
            List<Integer> way = new ArrayList<>();
            if (walk(from, to, length, way)) {
                return way;
            }
        }
        return null;
    }

    private static boolean walk(int from, int to, int left, List<Integer> way) {
        if (left == 0) {
            return from == to;
        }
        for (int height = 0; height <= 9; height++) {
            int next = step(from, height);
            if (next != NONE) {
                way.add(height);
                // bits that are not thrown anew must be those of the end
                if (next >> left - 1 == (to & next >> left - 1) && walk(next, to, left - 1, way)) {
                    return true;
                }
                way.remove(way.size() - 1);
            }
        }
        return false;
    }

    int way(int from, int to, int i) {
        if (from < 0 || from > 511 || to < 0 || to > 511) {
            return NONE;
        }
        List<Integer> way = wayOf(from, to);
        if (way == null) {
            return NONE;
        }
        return i == NONE ? way.size() : i < 0 || i >= way.size() ? NONE : way.get(i);
    }

    /** Each loop is walked from each of its states, so that it is found as often as it has steps. */
    int loops(int bits, int high, int steps) {
        if (bits < 0 || bits > 5 || high < 1 || high > 5 || steps < 1 || steps > 10) {
            return NONE;
        }
        int found = 0;
        for (int start = 0; start < 1 << high; start++) {
            if (Integer.bitCount(start) == bits) {
                found += walks(start, new ArrayList<>(List.of(start)), high, steps);
            }
        }
        return found / steps;
    }

    private static int walks(int start, List<Integer> path, int high, int left) {
        int found = 0;
        for (int height = 0; height <= high; height++) {
            int next = step(path.get(path.size() - 1), height);
            if (next == start && left == 1) {
                found++;
            } else if (next != NONE && left > 1 && !path.contains(next)) {
                path.add(next);
                found += walks(start, path, high, left - 1);
                path.remove(path.size() - 1);
            }
        }
        return found;
    }

    // ---- the score

    int clear() {
        int had = score.size();
        score.clear();
        return had;
    }

    int add(int letter, int times) {
        Line line = line(letter);
        if (!isGood(line) || !isPlain(line) || times < 1 || times > 50) {
            return NONE;
        }
        List<int[]> more = new ArrayList<>();
        if (!score.isEmpty()) {
            List<Integer> way = wayOf(scoreState, stateOf(line, 0));
            if (way == null) {
                return NONE;
            }
            way.forEach(height -> more.add(new int[] {height, NONE}));
        }
        for (int i = 0; i < times * line.size(); i++) {
            more.add(new int[] {line.at(i, 0).isEmpty() ? 0 : line.at(i, 0).get(0).height(), letter});
        }
        if (score.size() + more.size() > 300) {
            return NONE;
        }
        score.addAll(more);
        scoreState = stateOf(line, 0);
        return score.size();
    }

    int score(int i, int what) {
        return i < 0 || i >= score.size() || what < 0 || what > 1 ? NONE : score.get(i)[what];
    }

    // ---- made whole, dropped, turned

    int seen(int what) {
        String marks = marks();
        if (what == 0) {
            return marks.length();
        }
        if (what < 10 || what - 10 >= marks.length()) {
            return NONE;
        }
        char mark = marks.charAt(what - 10);
        return mark == '?' ? NONE : mark - '0';
    }

    int whole(int balls, int i) {
        String marks = marks();
        if (marks.isEmpty() || balls < 0 || balls > 9) {
            return NONE;
        }
        List<int[]> found = new ArrayList<>();
        tryAll(marks, new int[marks.length()], 0, balls, found);
        if (i == NONE) {
            return found.size();
        }
        return found.isEmpty() || i < 0 || i >= marks.length() ? NONE : found.get(0)[i];
    }

    private static void tryAll(String marks, int[] heights, int at, int balls, List<int[]> found) {
        int n = heights.length;
        int sum = Arrays.stream(heights, 0, at).sum();
        long lands = java.util.stream.IntStream.range(0, at).map(i -> (i + heights[i]) % n).distinct().count();
        if (lands < at || sum > balls * n) {
            return;
        }
        if (at == n) {
            if (sum == balls * n) {
                found.add(heights.clone());
            }
            return;
        }
        for (int height = 0; height <= 9; height++) {
            if (marks.charAt(at) == '?' || marks.charAt(at) == '0' + height) {
                heights[at] = height;
                tryAll(marks, heights, at + 1, balls, found);
            }
        }
    }

    int drop(int letter, int cycles, int to) {
        Line line = line(letter);
        if (!isGood(line) || to < 0 || to > 7 || time() == 60) {
            return NONE;
        }
        List<List<int[]>> all = allCycles(line);
        for (int bit = 0; bit < 32; bit++) {
            if ((cycles & 1 << bit) != 0 && bit >= all.size()) {
                return NONE;
            }
        }
        Line made = emptyLine(line.size());
        for (int i = 0; i < line.size(); i++) {
            for (int j = 0; j < jugglers; j++) {
                for (int k = 0; k < line.at(i, j).size(); k++) {
                    int cycle = find(all, i, j, k);
                    if (cycle > 31 || (cycles & 1 << cycle) == 0) {
                        made.at(i, j).add(line.at(i, j).get(k));
                    }
                }
            }
        }
        tell(Collections.singletonMap((char) ('A' + to), made), null);
        return time();
    }

    int turned(int first, int second) {
        Line one = line(first);
        Line other = line(second);
        if (one == null || other == null || one.size() != other.size()) {
            return NONE;
        }
        for (int d = 0; d < one.size(); d++) {
            List<List<List<Throw>>> beats = new ArrayList<>(other.beats);
            Collections.rotate(beats, -d);
            if (beats.equals(one.beats)) {
                return d;
            }
        }
        return NONE;
    }

    int about(int what) {
        int letters = 0;
        for (int letter = 0; letter < 8; letter++) {
            letters += line(letter) == null ? 0 : 1;
        }
        int[] all = {jugglers, time(), look, tape.length(), score.size(), letters};
        return what < 0 || what > 5 ? NONE : all[what];
    }
}
