/** Counts what a test checks, prints each check that fails, and ends the test; and makes machines to check. */
final class Checks {
    interface Call {
        void make();
    }

    /** Every character that a line may have. */
    static final String ALL = "\n" + signs(32, 126);

    private final String name;
    private String sentence = "";
    private int checks;
    private int wrong;

    Checks(String name) {
        this.name = name;
    }

    /** The words of the document that are broken if a check from here on fails. */
    void about(String newSentence) {
        sentence = " (" + newSentence + ")";
    }

    void equal(String what, Object due, Object got) {
        checks++;
        if (!due.equals(got)) {
            wrong++;
            System.out.println(name + ": " + what + " answered " + got + ", due is " + due + sentence);
        }
    }

    void fails(String what, Class<? extends RuntimeException> due, Call call) {
        Object got = "nothing thrown";
        try {
            call.make();
        } catch (RuntimeException e) {
            got = e.getClass();
        }
        equal(what, due, got);
    }

    void end() {
        System.out.println(name + ": " + checks + " checks, " + wrong + " wrong");
        if (wrong != 0 || checks == 0) {
            System.exit(1);
        }
    }

    void size(int due, String pattern) {
        PatternMachine x = new PatternMachine();
        type(x, pattern);
        try {
            equal("SIZE of " + pattern, due, x.compile(0));
        } catch (IllegalArgumentException | UnsupportedOperationException e) {
            equal("compile " + pattern, due, e.getClass());
        }
    }

    void noPattern(String... lines) {
        for (String line : lines) {
            PatternMachine x = new PatternMachine();
            type(x, line);
            fails("compile " + line, IllegalArgumentException.class, () -> x.compile(0));
        }
    }

    void tooLarge(String line) {
        PatternMachine x = new PatternMachine();
        type(x, line);
        fails("compile " + line, UnsupportedOperationException.class, () -> x.compile(0));
    }

    /** What is found from the beginning on. */
    void found(String due, String pattern, String text) {
        found(due, pattern, 0, text);
    }

    void found(String due, String pattern, int flags, String text) {
        equal(pattern + " with " + flags + " in " + text, due, find(pattern, flags, text));
    }

    void matched(String due, String pattern, String text) {
        PatternMachine x = machine(pattern, text);
        boolean matches = x.matches();
        equal(pattern + " matches " + text, due, caught(x));
        equal(pattern + " matches " + text, !due.equals("none"), matches);
    }

    /** Which of all characters a one-character pattern takes, in the order of their codes. */
    void takes(String due, String pattern, int flags) {
        StringBuilder taken = new StringBuilder();
        PatternMachine x = new PatternMachine();
        compile(x, pattern, flags);
        for (char c : ALL.toCharArray()) {
            x.clear();
            addText(x, String.valueOf(c));
            if (x.matches()) {
                taken.append(c);
            }
        }
        equal(pattern + " with " + flags + " takes", due, taken.toString());
    }

    static String signs(int first, int last) {
        StringBuilder signs = new StringBuilder();
        for (int c = first; c <= last; c++) {
            signs.append((char) c);
        }
        return signs.toString();
    }

    static PatternMachine machine(String pattern, int flags, String text) {
        PatternMachine x = new PatternMachine();
        addText(x, text);
        compile(x, pattern, flags);
        return x;
    }

    static PatternMachine machine(String pattern, String text) {
        return machine(pattern, 0, text);
    }

    static void type(PatternMachine x, String signs) {
        for (char c : signs.toCharArray()) {
            if (!x.type(c)) {
                throw new AssertionError("the line refuses " + (int) c + " of " + signs);
            }
        }
    }

    static int compile(PatternMachine x, String pattern, int flags) {
        type(x, pattern);
        return x.compile(flags);
    }

    static void addText(PatternMachine x, String text) {
        for (int i = 0; i < text.length(); i += 40) {
            type(x, text.substring(i, Math.min(i + 40, text.length())));
            x.text();
        }
    }

    static int replace(PatternMachine x, String template) {
        type(x, template);
        return x.replace();
    }

    static String text(PatternMachine x) {
        StringBuilder text = new StringBuilder();
        for (int c = x.character(0); c != -1; c = x.character(text.length())) {
            text.append((char) c);
        }
        return text.toString();
    }

    /** What was found, group by group: "0-3 1-2 -" where the last group is not there, or "none". */
    static String caught(PatternMachine x) {
        if (x.look(3) == 0) {
            return "none";
        }
        StringBuilder all = new StringBuilder();
        int groups = x.look(0);
        for (int k = 0; k <= groups; k++) {
            String place = x.group(k, false) + "-" + x.group(k, true);
            all.append(k == 0 ? "" : " ");
            all.append(place.equals("-1--1") ? "-" : place);
        }
        return all.toString();
    }

    /** What stands in the line; the text is lost for it. */
    static String lineOf(PatternMachine x) {
        x.clear();
        x.text();
        return text(x);
    }

    static boolean matches(String pattern, String text) {
        return machine(pattern, text).matches();
    }

    static String find(PatternMachine x, int from) {
        x.find(from);
        return caught(x);
    }

    static String find(String pattern, int flags, String text) {
        return find(machine(pattern, flags, text), 0);
    }

    static String piece(PatternMachine x, int n) {
        StringBuilder piece = new StringBuilder();
        int length = x.piece(n, -1);
        for (int k = 0; k < length; k++) {
            piece.append((char) x.piece(n, k));
        }
        return piece.toString();
    }

    static String times(String part, int n) {
        return part.repeat(n);
    }
}
