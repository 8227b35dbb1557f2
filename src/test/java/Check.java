/** What the project's tests share: texts that are fed, answers that are compared, and how a test ends. */
final class Check {
    private final String test;
    private int checks = 0;
    private int wrong = 0;
    private String sentence = "";
    private int sentences = 0;
    private int checksAhead = 0;

    Check(String test) {
        this.test = test;
    }

    /** The checks that follow are those of one sentence of the document; a sentence without a check is wrong. */
    void sentence(String words) {
        endSentence();
        sentence = words;
        sentences++;
        checksAhead = checks;
    }

    private void endSentence() {
        if (!sentence.isEmpty() && checks == checksAhead) {
            report("no check");
        }
        sentence = "";
    }

    void same(String call, long got, long want) {
        checks++;
        if (got != want) {
            report(call + " answered " + got + ", due is " + want);
        }
    }

    void same(String call, boolean got, boolean want) {
        same(call, got ? 1 : 0, want ? 1 : 0);
    }

    void sameText(String call, String got, String want) {
        checks++;
        if (!got.equals(want)) {
            report(call + " is \"" + got + "\", due is \"" + want + "\"");
        }
    }

    private void report(String what) {
        wrong++;
        if (wrong <= 30) {
            System.out.println(test + ": " + what + (sentence.isEmpty() ? "" : "; of \"" + sentence + "\""));
        }
    }

    /** Tells a text, and looks at what is answered and at its fault and place (0 and NONE: it is taken). */
    void told(JugglingHall hall, String text, int fault, int place) {
        int time = hall.about(1);
        int answer = tell(hall, text);
        same("text of \"" + text + "\"", answer, fault == 0 ? time + 1 : JugglingHall.NONE);
        same("fault(0) of \"" + text + "\"", hall.fault(0), fault);
        same("fault(1) of \"" + text + "\"", hall.fault(1), place);
        same("about(3) behind \"" + text + "\"", hall.about(3), 0);
    }

    void taken(JugglingHall hall, String text) {
        told(hall, text, 0, JugglingHall.NONE);
    }

    /** A new hall to which one text is told. */
    JugglingHall hall(int jugglers, String text) {
        JugglingHall hall = new JugglingHall(jugglers);
        taken(hall, text);
        return hall;
    }

    /** A text that a new hall refuses, and that leaves nothing behind. */
    void refused(int jugglers, String text, int fault, int place) {
        JugglingHall hall = new JugglingHall(jugglers);
        told(hall, text, fault, place);
        same("TIME behind \"" + text + "\"", hall.about(1), 0);
        same("letters behind \"" + text + "\"", hall.about(5), 0);
        same("SEEN behind \"" + text + "\"", hall.seen(0), 0);
    }

    /** What a sequence for one juggler becomes, as the heights of its beats. */
    void row(String sequence, String heights) {
        sameText("row of " + sequence, heights(hall(1, "row A=" + sequence + ";"), 0, 0), heights);
    }

    /** The heights of the throws 0 of a juggler, told as digits. */
    static String heights(JugglingHall hall, int letter, int juggler) {
        StringBuilder all = new StringBuilder();
        for (int beat = 0; beat < hall.beats(letter); beat++) {
            all.append(hall.thrown(letter, beat, juggler, 0, 0));
        }
        return all.toString();
    }

    /** All throws of a row as a text would tell them, with to whom each one goes: <5p0 3p1|0>. */
    static String throwsOf(JugglingHall hall, int letter) {
        StringBuilder all = new StringBuilder();
        for (int beat = 0; beat < hall.beats(letter); beat++) {
            for (int juggler = 0; juggler < hall.about(0); juggler++) {
                all.append(juggler == 0 ? "<" : "|").append(throwAt(hall, letter, beat, juggler, 0));
                if (hall.thrown(letter, beat, juggler, 1, 0) != 0) {
                    all.append(" ").append(throwAt(hall, letter, beat, juggler, 1));
                }
            }
            all.append(">");
        }
        return all.toString();
    }

    private static String throwAt(JugglingHall hall, int letter, int beat, int juggler, int k) {
        int height = hall.thrown(letter, beat, juggler, k, 0);
        return height == 0 ? "0" : height + "p" + hall.thrown(letter, beat, juggler, k, 1);
    }

    static int tell(JugglingHall hall, String text) {
        feed(hall, text);
        return hall.text();
    }

    /** Makes the tape just this text. */
    static void feed(JugglingHall hall, String text) {
        hall.end(0);
        for (int at = 0; at < text.length(); at += 20) {
            int kept = hall.about(3);
            if (kept + 20 > 300) {
                throw new IllegalStateException("the text is too long for the tape");
            }
            hall.feed(word(text, at), word(text, at + 4), word(text, at + 8), word(text, at + 12), word(text, at + 16));
        }
        hall.end(text.length());
    }

    private static int word(String text, int at) {
        int word = 0;
        for (int i = at; i < at + 4; i++) {
            word = word << 8 | (i < text.length() ? text.charAt(i) & 255 : 0);
        }
        return word;
    }

    void finish() {
        endSentence();
        String of = sentences == 0 ? "" : " of " + sentences + " sentences";
        System.out.println(test + ": " + checks + " checks" + of + ", " + wrong + " wrong");
        if (wrong != 0 || checks == 0) {
            System.exit(1);
        }
    }
}
