/** What the project's tests share: texts that are fed, answers that are compared, and how a test ends. */
final class Check {
    private final String test;
    private int checks = 0;
    private int wrong = 0;

    Check(String test) {
        this.test = test;
    }

    void same(String call, long got, long want) {
        checks++;
        if (got != want) {
            wrong++;
            if (wrong <= 30) {
                System.out.println(test + ": " + call + " answered " + got + ", due is " + want);
            }
        }
    }

    void same(String call, boolean got, boolean want) {
        same(call, got ? 1 : 0, want ? 1 : 0);
    }

    /** Tells a text, and looks at what is answered and at its fault and place (0 and NONE: it is taken). */
    void told(JugglingHall hall, String text, int fault, int place) {
        int time = hall.about(1);
        int answer = tell(hall, text);
        same("text of \"" + text + "\"", answer, fault == 0 ? time + 1 : JugglingHall.NONE);
        same("fault(0) of \"" + text + "\"", hall.fault(0), fault);
        same("fault(1) of \"" + text + "\"", hall.fault(1), place);
        same("about(3) behind \"" + text + "\"", hall.about(3), 0);
    }

    void taken(JugglingHall hall, String text) {
        told(hall, text, 0, JugglingHall.NONE);
    }

    /** The heights of the throws 0 of a juggler, told as digits. */
    static String heights(JugglingHall hall, int letter, int juggler) {
        StringBuilder all = new StringBuilder();
        for (int beat = 0; beat < hall.beats(letter); beat++) {
            all.append(hall.thrown(letter, beat, juggler, 0, 0));
        }
        return all.toString();
    }

    void sameText(String call, String got, String want) {
        checks++;
        if (!got.equals(want)) {
            wrong++;
            System.out.println(test + ": " + call + " is \"" + got + "\", due is \"" + want + "\"");
        }
    }

    static int tell(JugglingHall hall, String text) {
        feed(hall, text);
        return hall.text();
    }

    /** Makes the tape just this text. */
    static void feed(JugglingHall hall, String text) {
        hall.end(0);
        for (int at = 0; at < text.length(); at += 20) {
            int kept = hall.about(3);
            if (kept + 20 > 300) {
                throw new IllegalStateException("the text is too long for the tape");
            }
            hall.feed(word(text, at), word(text, at + 4), word(text, at + 8), word(text, at + 12), word(text, at + 16));
        }
        hall.end(text.length());
    }

    private static int word(String text, int at) {
        int word = 0;
        for (int i = at; i < at + 4; i++) {
            word = word << 8 | (i < text.length() ? text.charAt(i) & 255 : 0);
        }
        return word;
    }

    void finish() {
        System.out.println(test + ": " + checks + " checks, " + wrong + " wrong");
        if (wrong != 0 || checks == 0) {
            System.exit(1);
        }
    }
}
