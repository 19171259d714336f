/** Promise 4: compile, what a PATTERN is, and its SIZE. */
final class CompileTest {
    private static final Checks checks = new Checks("CompileTest");

    public static void main(String[] args) {
        sizesOfPatterns();
        linesThatAreNoPatterns();
        edgesOfTheLimits();
        aRefusedLineChangesNothing();
        aPatternThatIsTooLargeChangesNothing();
        compileEmptiesTheLineAndForgets();
        onlyTheLowestThreeFlagsCount();
        checks.end();
    }

    private static void size(int due, String pattern) {
        PatternMachine x = new PatternMachine();
        checks.equal("SIZE of " + pattern, due, Checks.compile(x, pattern, 0));
    }

    private static void refused(String line) {
        PatternMachine x = new PatternMachine();
        Checks.type(x, line);
        checks.fails("compile " + line, IllegalArgumentException.class, () -> x.compile(0));
    }

    private static void tooLarge(String line) {
        PatternMachine x = new PatternMachine();
        Checks.type(x, line);
        checks.fails("compile " + line, UnsupportedOperationException.class, () -> x.compile(0));
    }

    private static void sizesOfPatterns() {
        size(0, "");
        size(3, "abc");
        size(5, "^a$\\b\\B");
        size(4, ".[a-z]\\d\\.");
        size(3, "(a)");
        size(2, "()");
        size(1, "(?:a)");
        size(0, "(?:)");
        size(4, "a|b");
        size(7, "a|b|c");
        size(4, "||");
        size(2, "a?");
        size(2, "a??");
        size(3, "a*");
        size(4, "a+");
        size(4, "a+?");
        size(0, "a{0}");
        size(0, "(a){0}");
        size(0, "a{0,0}");
        size(5, "a{5}?");
        size(3, "a{0,}");
        size(8, "a{5,}");
        size(2, "a{0,1}");
        size(10, "a{0,5}");
        size(8, "a{2,5}");
        size(5, "a{5,5}");
        size(8, "(a)+");
        size(18, "(?:(ab)|c*){2}");
        size(4, "()*");
        size(3, "]}:");
        size(4, "-,=\n");
        size(3, " <>");
    }

    private static void linesThatAreNoPatterns() {
        String[] lines = {
            "*", "+", "?", "{", "{1}", "a**", "a*+", "a???", "a+??", "a{1}{2}", "a{2}??", "^*", "$+", "\\b?", "\\B{2}",
            "a|*", "(*a)", "(?:+)", "(", ")", "(a", "a)", "(a))", "((a)", "(?", "(?:", "(?:a", "(?a)", "(?=a)", "(?)",
            "a{", "a{}", "a{1", "a{1,", "a{1,2", "a{,2}", "a{6}", "a{6,}", "a{0,6}", "a{3,2}", "a{5,0}", "a{12}",
            "a{1 }", "a{x}", "a{1,x}", "a{1,2,3}", "\\", "\\a", "\\q", "\\N", "\\0", "\\1", "\\ ", "\\\n", "a\\",
            "[", "[]", "[^]", "[a", "[^a", "[a-", "[a-b", "[]a]", "[b-a]", "[a--]", "[\\D]", "[\\W]", "[\\S]", "[\\b]",
            "[\\B]", "[\\q]", "[\\1]", "[\\ ]", "[\\]", "[\\", "[a\\", "[a]*+"
        };
        for (String line : lines) {
            refused(line);
        }
    }

    private static void edgesOfTheLimits() {
        size(12, "(a)(b)(c)(d)");
        refused("(a)(b)(c)(d)(e)");
        size(9, "((((a))))");
        refused("(((((a)))))");
        size(9, "((((" + Checks.times("(?:", 4) + "a" + Checks.times(")", 8));
        refused("((((" + Checks.times("(?:", 5) + "a" + Checks.times(")", 9));
        size(1, Checks.times("(?:", 8) + "a" + Checks.times(")", 8));
        refused(Checks.times("(?:", 9) + "a");
        size(0, Checks.times("(?:)", 10));
        size(40, Checks.times("a", 40));
        size(80, Checks.times("|", 40));
        size(120, "(?:(?:aa{5}){4}){5}");
        tooLarge("(?:(?:aa{5}){4}){5}b");
        size(120, "(?:(?:a{5}){4}){5}(?:a{5}){3}(a|)");
        tooLarge("(?:(?:a{5}){4}){5}(?:a{5}){3}(a|b)");
        tooLarge("(?:(?:(?:(?:a{5}){5}){5}){5}){5,}");
        refused("(?:(?:(?:(?:a{5}){5}){5}){5}){5,})");
        refused("(?:(?:(?:(?:a{5}){5}){5}){5}){5,6}");
    }

    private static void aRefusedLineChangesNothing() {
        PatternMachine x = Checks.machine("(b)c", "abc");
        x.find(0);
        Checks.type(x, "(((a)b)");
        checks.fails("compile", IllegalArgumentException.class, () -> x.compile(7));
        checks.equal("line", 7, x.look(1));
        checks.equal("groups", 1, x.look(0));
        checks.equal("found", "1-3 1-2", Checks.caught(x));
        checks.equal("the pattern before", "1-3 1-2", Checks.find(x, 0));
        Checks.type(x, ")");
        checks.equal("the line mended", 8, x.compile(0));
        checks.equal("groups", 3, x.look(0));
    }

    private static void aPatternThatIsTooLargeChangesNothing() {
        PatternMachine x = Checks.machine("(b)c", "abc");
        x.find(0);
        Checks.type(x, "(?:(?:a{5}){5}){5}");
        checks.fails("compile", UnsupportedOperationException.class, () -> x.compile(0));
        checks.equal("line", 18, x.look(1));
        checks.equal("found", "1-3 1-2", Checks.caught(x));
        checks.equal("the pattern before", "1-3 1-2", Checks.find(x, 0));
        Checks.type(x, ")");
        checks.fails("no pattern comes first", IllegalArgumentException.class, () -> x.compile(0));
        x.text();
        checks.equal("the line was kept", "abc(?:(?:a{5}){5}){5})", Checks.text(x));
    }

    private static void compileEmptiesTheLineAndForgets() {
        PatternMachine x = Checks.machine("b", "abc");
        x.find(0);
        Checks.compile(x, "c", 0);
        checks.equal("line", 0, x.look(1));
        checks.equal("found", 0, x.look(3));
        checks.fails("group", IllegalStateException.class, () -> x.group(0, false));
        checks.equal("text stays", "abc", Checks.text(x));
        checks.equal("an empty line is a pattern", 0, x.compile(0));
        checks.equal("found everywhere", 4, x.count());
    }

    private static void onlyTheLowestThreeFlagsCount() {
        checks.equal("8 is no flag", "none", Checks.find("A", 8, "a"));
        checks.equal("9 has 1", "0-1", Checks.find("A", 9, "a"));
        checks.equal("-1 has all", "0-2", Checks.find("A.$", -1, "a\n\nb"));
        checks.equal("-8 has none", "none", Checks.find("A", -8, "a"));
    }
}
