/** Counts what a test checks, prints each check that fails, and ends the test; and makes machines to check. */
final class Checks {
    interface Call {
        void make();
    }

    private final String name;
    private int checks;
    private int wrong;

    Checks(String name) {
        this.name = name;
    }

    void equal(String what, Object due, Object got) {
        checks++;
        if (!due.equals(got)) {
            wrong++;
            System.out.println(name + ": " + what + " answered " + got + ", due is " + due);
        }
    }

    void fails(String what, Class<? extends RuntimeException> due, Call call) {
        Object got = "nothing thrown";
        try {
            call.make();
        } catch (RuntimeException e) {
            got = e.getClass();
        }
        equal(what, due, got);
    }

    void end() {
        System.out.println(name + ": " + checks + " checks, " + wrong + " wrong");
        if (wrong != 0 || checks == 0) {
            System.exit(1);
        }
    }

    static PatternMachine machine(String pattern, int flags, String text) {
        PatternMachine x = new PatternMachine();
        addText(x, text);
        compile(x, pattern, flags);
        return x;
    }

    static PatternMachine machine(String pattern, String text) {
        return machine(pattern, 0, text);
    }

    static void type(PatternMachine x, String signs) {
        for (char c : signs.toCharArray()) {
            if (!x.type(c)) {
                throw new AssertionError("the line refuses " + (int) c + " of " + signs);
            }
        }
    }

    static int compile(PatternMachine x, String pattern, int flags) {
        type(x, pattern);
        return x.compile(flags);
    }

    static void addText(PatternMachine x, String text) {
        for (int i = 0; i < text.length(); i += 40) {
            type(x, text.substring(i, Math.min(i + 40, text.length())));
            x.text();
        }
    }

    static int replace(PatternMachine x, String template) {
        type(x, template);
        return x.replace();
    }

    static String text(PatternMachine x) {
        StringBuilder text = new StringBuilder();
        for (int i = 0; x.character(i) != -1; i++) {
            text.append((char) x.character(i));
        }
        return text.toString();
    }

    /** What was found, group by group: "0-3 1-2 -" where the last group is not there, or "none". */
    static String caught(PatternMachine x) {
        if (x.look(3) == 0) {
            return "none";
        }
        StringBuilder all = new StringBuilder();
        for (int k = 0; k <= x.look(0); k++) {
            boolean there = x.group(k, false) != -1 || x.group(k, true) != -1;
            all.append(k == 0 ? "" : " ");
            all.append(there ? x.group(k, false) + "-" + x.group(k, true) : "-");
        }
        return all.toString();
    }

    static String find(PatternMachine x, int from) {
        x.find(from);
        return caught(x);
    }

    static String find(String pattern, int flags, String text) {
        return find(machine(pattern, flags, text), 0);
    }

    static String piece(PatternMachine x, int n) {
        StringBuilder piece = new StringBuilder();
        int length = x.piece(n, -1);
        for (int k = 0; k < length; k++) {
            piece.append((char) x.piece(n, k));
        }
        return piece.toString();
    }

    static String times(String part, int n) {
        return part.repeat(n);
    }
}
