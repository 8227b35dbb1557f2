import java.util.ArrayList;
import java.util.Collections;
import java.util.List;
import java.util.Random;

/** All promises: random runs of calls, each answer held against that of Model. */
public final class SessionTest {
    private static final String[] SOUP = {"row", "seen", "back", "over", "dual", "turn", "p", "A", "B", "H", "I", "0",
        "1", "3", "9", "=", ";", "*", "(", ")", "[", "]", "<", ">", "|", "?", "#", "Row", "AB", "\u00e9", "\t", "\n"};

    private final Check check;
    private final Random random;
    private final int jugglers;
    private final JugglingHall hall;
    private final Model model;
    private int taken = 0;

    private SessionTest(Check check, long seed) {
        this.check = check;
        this.random = new Random(seed);
        this.jugglers = 1 + random.nextInt(3);
        this.hall = new JugglingHall(jugglers);
        this.model = new Model(jugglers);
    }

    public static void main(String[] args) {
        Check check = new Check("SessionTest");
        int sessions = args.length > 0 ? Integer.parseInt(args[0]) : 400;
        int taken = 0;
        for (int seed = 0; seed < sessions; seed++) {
            SessionTest session = new SessionTest(check, seed);
            session.run();
            taken += session.taken;
        }
        check.same("some texts are taken", taken > sessions, true);
        check.finish();
    }

    private void run() {
        // now and then a run begins so late that it comes to the last TIME
        int early = random.nextInt(8) == 0 ? 52 : 0;
        for (int i = 0; i < early; i++) {
            same("an empty text", hall.text(), model.text());
        }
        int texts = 3 + random.nextInt(12);
        for (int i = 0; i < texts; i++) {
            tell(random.nextInt(4) == 0 ? soup() : clauses());
            for (int call = 0; call < 18; call++) {
                ask();
            }
        }
    }

    private int below(int n) {
        return random.nextInt(n);
    }

    /** An argument of -1 up to one too many, with far ones now and then. */
    private int around(int n) {
        int far = below(60);
        return far == 0 ? Integer.MIN_VALUE : far == 1 ? Integer.MAX_VALUE : below(n + 2) - 1;
    }

    private void same(String call, int got, int want) {
        check.same(call, got, want);
    }

    private void tell(String text) {
        String cut = text.length() > 300 ? text.substring(0, 300) : text;
        same("end", hall.end(0), model.end(0));
        for (int at = 0; at < cut.length(); at += 20) {
            int[] words = new int[5];
            for (int i = 0; i < 20; i++) {
                int sign = at + i < cut.length() ? cut.charAt(at + i) & 255 : below(256);
                words[i / 4] = words[i / 4] << 8 | sign;
            }
            same("feed", hall.feed(words[0], words[1], words[2], words[3], words[4]), model.feed(words));
        }
        same("end", hall.end(cut.length()), model.end(cut.length()));
        int time = hall.text();
        same("text of " + cut, time, model.text());
        same("fault(0) of " + cut, hall.fault(0), model.fault(0));
        same("fault(1) of " + cut, hall.fault(1), model.fault(1));
        taken += time > 0 ? 1 : 0;
    }

    // ---- texts

    private String soup() {
        StringBuilder text = new StringBuilder(below(2) == 0 ? "row A=" : clauses());
        int parts = 1 + below(4);
        for (int i = 0; i < parts; i++) {
            text.insert(below(text.length() + 1), SOUP[below(SOUP.length)]);
        }
        if (below(2) == 0) {
            text.deleteCharAt(below(text.length()));
        }
        return text.toString();
    }

    private String clauses() {
        StringBuilder text = new StringBuilder();
        int clauses = 1 + below(4);
        for (int i = 0; i < clauses; i++) {
            if (below(5) == 0) {
                text.append(seen());
            } else {
                text.append("row ").append((char) ('A' + below(8))).append(" = ");
                text.append(below(3) > 0 ? goodRow() : sequence(0)).append(";");
            }
        }
        return text.toString();
    }

    private String seen() {
        StringBuilder text = new StringBuilder("seen ");
        int marks = 1 + below(below(6) == 0 ? 8 : 4);
        for (int i = 0; i < marks; i++) {
            text.append(below(2) == 0 ? "?" : String.valueOf(below(10)));
        }
        return text.append(" ;").toString();
    }

    private String sequence(int depth) {
        StringBuilder text = new StringBuilder();
        int items = 1 + below(3);
        for (int i = 0; i < items; i++) {
            text.append(one(depth));
            if (below(4) == 0) {
                text.append("*").append(below(8) == 0 ? below(10) : 1 + below(3));
            }
            text.append(below(3) == 0 ? "\n" : " ");
        }
        return text.toString();
    }

    private String one(int depth) {
        int kind = below(10);
        if (kind < 4 || depth > 6) {
            return beat();
        }
        if (kind == 4) {
            return String.valueOf((char) ('A' + below(8)));
        }
        String inner = "(" + (below(2) == 0 ? goodRow() : sequence(depth + 1)) + ")";
        switch (kind) {
            case 5:
                return "back" + inner;
            case 6:
                return "over" + inner;
            case 7:
                return below(jugglers) == 0 ? "dual " + inner : inner;
            case 8:
                return "turn" + below(10) + inner;
            default:
                return inner;
        }
    }

    private String beat() {
        if (jugglers == 1) {
            return hands();
        }
        StringBuilder text = new StringBuilder("<");
        for (int j = 0; j < jugglers; j++) {
            text.append(j == 0 ? "" : "|").append(hands());
        }
        return text.append(">").toString();
    }

    private String hands() {
        return below(3) == 0 ? "[" + oneThrow() + oneThrow() + "]" : oneThrow();
    }

    private String oneThrow() {
        return below(10) + (below(3) == 0 ? "p" + below(below(12) == 0 ? 4 : jugglers) : "");
    }

    /** A row that is good, made by giving each throw one of the places that are thrown from. */
    private String goodRow() {
        int n = 1 + below(below(4) == 0 ? 9 : 5);
        boolean plain = jugglers == 1 && below(3) > 0;
        List<int[]> places = new ArrayList<>();
        for (int i = 0; i < n; i++) {
            for (int j = 0; j < jugglers; j++) {
                int many = plain ? 1 : below(3);
                for (int k = 0; k < many; k++) {
                    places.add(new int[] {i, j});
                }
            }
        }
        List<int[]> landings = new ArrayList<>(places);
        Collections.shuffle(landings, random);
        StringBuilder text = new StringBuilder();
        int next = 0;
        for (int i = 0; i < n; i++) {
            text.append(jugglers > 1 ? "<" : "");
            for (int j = 0; j < jugglers; j++) {
                text.append(j > 0 ? "|" : "");
                List<String> all = new ArrayList<>();
                while (next < places.size() && places.get(next)[0] == i && places.get(next)[1] == j) {
                    all.add(fitting(i, landings.get(next), n));
                    next++;
                }
                text.append(all.isEmpty() ? "0" : all.size() == 1 ? all.get(0) : "[" + String.join("", all) + "]");
            }
            text.append(jugglers > 1 ? ">" : "");
        }
        return text.toString();
    }

    private String fitting(int beat, int[] landing, int n) {
        int height = Math.floorMod(landing[0] - beat, n);
        boolean zero = jugglers == 1 && height == 0 && below(2) == 0;
        height += height == 0 && !zero ? n : 0;
        height += below(3) == 0 && height + n <= 9 && height > 0 ? n : 0;
        return height + (jugglers > 1 || below(9) == 0 ? "p" + landing[1] : "");
    }

    // ---- questions

    private void ask() {
        int a = around(8);
        int b = around(5);
        switch (below(20)) {
            case 0 -> check.same("look(" + b + ")", hall.look(b), model.look(b));
            case 1 -> same("beats(" + a + ")", hall.beats(a), model.beats(a));
            case 2 -> askThrown(a, b, around(jugglers), around(2));
            case 3 -> same("good(" + a + ", " + b + ")", hall.good(a, b), model.good(a, b));
            case 4 -> same("cycles(" + a + ")", hall.cycles(a), model.cycles(a));
            case 5 -> askCycle(a, b);
            case 6 -> askCycleOf(a, b, around(jugglers), around(2));
            case 7 -> askCaught(a, below(3) == 0 ? around(1000) : around(30), around(jugglers), around(2));
            case 8 -> same("state(" + a + ", " + b + ")", hall.state(a, b), model.state(a, b));
            case 9 -> askWay();
            case 10 -> askLoops(around(6), around(6), around(11));
            case 11 -> same("clear()", hall.clear(), model.clear());
            case 12, 13, 14 -> askScore(a);
            case 15 -> askSeen();
            case 16 -> askWhole();
            case 17 -> askDrop(a, below(5) == 0 ? random.nextInt() : below(8), around(8));
            case 18 -> askTurned();
            default -> same("about(" + b + ")", hall.about(b), model.about(b));
        }
    }

    private void askThrown(int letter, int beat, int juggler, int k) {
        for (int what = -1; what <= 2; what++) {
            String call = "thrown(" + letter + ", " + beat + ", " + juggler + ", " + k + ", " + what + ")";
            same(call, hall.thrown(letter, beat, juggler, k, what), model.thrown(letter, beat, juggler, k, what));
        }
    }

    private void askCycle(int letter, int cycle) {
        for (int what = -1; what <= 6; what++) {
            String call = "cycle(" + letter + ", " + cycle + ", " + what + ")";
            same(call, hall.cycle(letter, cycle, what), model.cycle(letter, cycle, what));
        }
    }

    private void askCycleOf(int letter, int beat, int juggler, int k) {
        String call = "cycleOf(" + letter + ", " + beat + ", " + juggler + ", " + k + ")";
        same(call, hall.cycleOf(letter, beat, juggler, k), model.cycleOf(letter, beat, juggler, k));
    }

    private void askCaught(int letter, int t, int juggler, int k) {
        for (int what = -1; what <= 4; what++) {
            String call = "caught(" + letter + ", " + t + ", " + juggler + ", " + k + ", " + what + ")";
            same(call, hall.caught(letter, t, juggler, k, what), model.caught(letter, t, juggler, k, what));
        }
    }

    private void askWay() {
        int from = around(512);
        int to = around(512);
        for (int i = 0; i < 10 && Integer.bitCount(from) != Integer.bitCount(to); i++) {
            to = around(512);
        }
        int step = around(9);
        same("way(" + from + ", " + to + ", -1)", hall.way(from, to, -1), model.way(from, to, -1));
        same("way(" + from + ", " + to + ", " + step + ")", hall.way(from, to, step), model.way(from, to, step));
    }

    private void askLoops(int bits, int high, int steps) {
        String call = "loops(" + bits + ", " + high + ", " + steps + ")";
        same(call, hall.loops(bits, high, steps), model.loops(bits, high, steps));
    }

    private void askScore(int letter) {
        int times = below(4) == 0 ? around(51) : 1 + below(3);
        same("add(" + letter + ", " + times + ")", hall.add(letter, times), model.add(letter, times));
        int last = model.about(4);
        for (int i = Math.max(-1, last - 8); i <= last; i++) {
            int what = around(2);
            same("score(" + i + ", " + what + ")", hall.score(i, what), model.score(i, what));
        }
    }

    private void askSeen() {
        for (int what = -1; what <= 18; what++) {
            same("seen(" + what + ")", hall.seen(what), model.seen(what));
        }
    }

    private void askWhole() {
        int balls = around(10);
        for (int i = -2; i <= 4; i++) {
            same("whole(" + balls + ", " + i + ")", hall.whole(balls, i), model.whole(balls, i));
        }
    }

    private void askDrop(int letter, int cycles, int to) {
        String call = "drop(" + letter + ", " + cycles + ", " + to + ")";
        same(call, hall.drop(letter, cycles, to), model.drop(letter, cycles, to));
        for (int beat = 0; beat < 3; beat++) {
            askThrown(to, beat, below(jugglers), below(2));
        }
    }

    private void askTurned() {
        for (int first = -1; first <= 8; first++) {
            for (int second = -1; second <= 8; second++) {
                String call = "turned(" + first + ", " + second + ")";
                same(call, hall.turned(first, second), model.turned(first, second));
            }
        }
    }
}
