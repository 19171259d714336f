/** Promise 4: compile. Which lines are PATTERNs, and their SIZE, stand in TermsTest and MeaningTest. */
final class CompileTest {
    private static final Checks checks = new Checks("CompileTest");
    private static final String LARGEST = "(?:(?:aa{5}){4}){5}";

    public static void main(String[] args) {
        theLineBecomesThePattern();
        nothingIsLeftOfThePatternBefore();
        onlyTheLowestThreeFlagsCount();
        theLineIsEmptyThen();
        nothingHasBeenFoundThen();
        anEmptyLineIsAPattern();
        sizesUpTo120();
        noPatternComesBeforeTooLarge();
        whenNoPatternThePatternBeforeAndTheLineStay();
        whenTooLargeThePatternBeforeAndTheLineStay();
        withoutAPatternBeforeThereIsNoneBehindARefusal();
        checks.end();
    }

    private static void theLineBecomesThePattern() {
        checks.about("The line becomes the pattern");
        PatternMachine x = Checks.machine("(a)(b)", "abc");
        checks.equal("the first one", "0-2 0-1 1-2", Checks.find(x, 0));
        Checks.compile(x, "c", 0);
        checks.equal("the next one", "2-3", Checks.find(x, 0));
        checks.equal("its groups", 0, x.look(0));
        checks.equal("the text stays", "abc", Checks.text(x));
    }

    private static void nothingIsLeftOfThePatternBefore() {
        checks.about("The line becomes the pattern");
        String[] lines = {
            "ab", "a", "", "abc", "a|b", "a|b|c", "(a)(b)(c)", "(?:a|b)*", "a{2,4}?", "[^a]", "1", "\\b.", "a*?", "(a", "b)", LARGEST
        };
        for (String before : lines) {
            for (String line : lines) {
                PatternMachine x = new PatternMachine();
                PatternMachine fresh = new PatternMachine();
                answered(x, before);
                checks.equal(line + " behind " + before, answered(fresh, line), answered(x, line));
            }
        }
    }

    private static String answered(PatternMachine x, String line) {
        x.wipe();
        Checks.type(x, line);
        String answer;
        try {
            answer = "SIZE " + x.compile(0);
        } catch (IllegalArgumentException e) {
            return "no pattern";
        }
        x.clear();
        Checks.addText(x, "abcaab1");
        return answer + ", " + x.look(0) + " groups, " + Checks.find(x, 0) + ", " + x.count();
    }

    private static void onlyTheLowestThreeFlagsCount() {
        checks.about("with flags (their lowest three bits)");
        for (int flags = 0; flags < 8; flags++) {
            for (int others : new int[] {0, 8, 16, 1 << 30, -8, Integer.MIN_VALUE}) {
                checks.equal("1 in " + (flags | others), (flags & 1) != 0, Checks.machine("A", flags | others, "a").find(0));
                checks.equal("2 in " + (flags | others), (flags & 2) != 0, Checks.machine("a$", flags | others, "a\n").find(0));
                checks.equal("4 in " + (flags | others), (flags & 4) != 0, Checks.machine("a.", flags | others, "a\n").find(0));
            }
        }
        checks.equal("-1 has all", "0-2", Checks.find("A.$", -1, "a\n\nb"));
        checks.equal("the largest has all", "0-2", Checks.find("A.$", Integer.MAX_VALUE, "a\n\nb"));
        PatternMachine x = Checks.machine("A", 1, "a");
        Checks.compile(x, "A", 0);
        checks.equal("the flags before count no more", false, x.find(0));
    }

    private static void theLineIsEmptyThen() {
        checks.about("the line is empty then");
        PatternMachine x = new PatternMachine();
        Checks.compile(x, "abc", 0);
        checks.equal("line", 0, x.look(1));
        checks.equal("text", 0, x.text());
        Checks.type(x, Checks.times("a", 40));
        x.compile(0);
        checks.equal("room for forty again", "", Checks.lineOf(x));
        Checks.type(x, Checks.times("b", 40));
        checks.equal("line", 40, x.look(1));
    }

    private static void nothingHasBeenFoundThen() {
        checks.about("nothing has been found");
        PatternMachine x = Checks.machine("b", "abc");
        x.find(0);
        Checks.compile(x, "b", 0);
        checks.equal("found", 0, x.look(3));
        checks.fails("group", IllegalStateException.class, () -> x.group(0, false));
    }

    private static void anEmptyLineIsAPattern() {
        checks.about("An empty line is a pattern of SIZE 0");
        PatternMachine x = new PatternMachine();
        checks.equal("SIZE", 0, x.compile(0));
        checks.equal("in nothing", "0-0", Checks.find(x, 0));
        Checks.addText(x, "ab");
        checks.equal("places", 3, x.count());
        PatternMachine y = Checks.machine("(a)", "a");
        checks.equal("instead of another", 0, y.compile(7));
        checks.equal("groups", 0, y.look(0));
    }

    private static void sizesUpTo120() {
        checks.about("UnsupportedOperationException: its SIZE is above 120");
        checks.size(119, "(?:(?:aa{5}){4}){4}(?:a{4}){5}aaa");
        checks.size(120, LARGEST);
        checks.tooLarge(LARGEST + "a");
        checks.tooLarge(LARGEST + "^");
        checks.tooLarge(LARGEST + "()");
        checks.tooLarge(LARGEST + "|");
        checks.size(120, LARGEST + "(?:)a{0}(b){0}");
        checks.size(120, "(?:(?:a{5}){4}){5}(?:a{5}){3}(a|)");
        checks.tooLarge("(?:(?:a{5}){4}){5}(?:a{5}){3}(a|b)");
        checks.tooLarge("(?:(?:a{5}){5}){4}(?:a{5}){4}a?");
        checks.tooLarge("(?:(?:(?:(?:a{5}){5}){5}){5}){5,}");
    }

    private static void noPatternComesBeforeTooLarge() {
        checks.about("IllegalArgumentException: it is no PATTERN; else UnsupportedOperationException");
        checks.noPattern(LARGEST + "a)", LARGEST + "a(", LARGEST + "a\\", LARGEST + "aa{6}", LARGEST + "a[b-a]");
        checks.noPattern("*" + LARGEST + "a", "(a)(b)(c)(d)(e)" + LARGEST + "a");
        checks.noPattern("(?:(?:(?:(?:a{5}){5}){5}){5}){5,6}");
    }

    private static PatternMachine withAPattern() {
        PatternMachine x = Checks.machine("(B)c", 1, "abc");
        x.find(0);
        return x;
    }

    private static void whenNoPatternThePatternBeforeAndTheLineStay() {
        checks.about("when something is thrown the pattern before stays; no PATTERN (the line stays)");
        PatternMachine x = withAPattern();
        Checks.type(x, "(((a)b)");
        checks.fails("compile", IllegalArgumentException.class, () -> x.compile(0));
        checks.equal("line", 7, x.look(1));
        checks.equal("groups", 1, x.look(0));
        checks.equal("found", "1-3 1-2", Checks.caught(x));
        checks.equal("the pattern before, with its flags", "1-3 1-2", Checks.find(x, 0));
        checks.fails("once more", IllegalArgumentException.class, () -> x.compile(0));
        Checks.type(x, ")");
        checks.equal("the line mended", 8, x.compile(0));
        checks.equal("groups", 3, x.look(0));
        Checks.type(x, "(");
        checks.fails("compile", IllegalArgumentException.class, () -> x.compile(0));
        checks.equal("the line as it was", "(", Checks.lineOf(x));
    }

    private static void whenTooLargeThePatternBeforeAndTheLineStay() {
        checks.about("when something is thrown the pattern before stays; SIZE is above 120 (the line stays)");
        PatternMachine x = withAPattern();
        Checks.type(x, "(?:(?:a{5}){5}){5}");
        checks.fails("compile", UnsupportedOperationException.class, () -> x.compile(0));
        checks.equal("line", 18, x.look(1));
        checks.equal("groups", 1, x.look(0));
        checks.equal("found", "1-3 1-2", Checks.caught(x));
        checks.equal("the pattern before, with its flags", "1-3 1-2", Checks.find(x, 0));
        checks.fails("once more", UnsupportedOperationException.class, () -> x.compile(0));
        checks.equal("the line as it was", "(?:(?:a{5}){5}){5}", Checks.lineOf(x));
    }

    private static void withoutAPatternBeforeThereIsNoneBehindARefusal() {
        checks.about("when something is thrown the pattern before stays");
        for (String line : new String[] {"(a))", LARGEST + "(a)"}) {
            PatternMachine x = new PatternMachine();
            Checks.type(x, line);
            try {
                x.compile(0);
            } catch (IllegalArgumentException | UnsupportedOperationException e) {
                checks.equal("line", line.length(), x.look(1));
            }
            checks.equal("groups behind " + line, 0, x.look(0));
            checks.fails("find behind " + line, IllegalStateException.class, () -> x.find(0));
            checks.fails("matches behind " + line, IllegalStateException.class, () -> x.matches());
            checks.fails("count behind " + line, IllegalStateException.class, () -> x.count());
        }
    }
}
