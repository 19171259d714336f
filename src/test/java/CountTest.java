/** Promise 10: count. */
final class CountTest {
    private static final Checks checks = new Checks("CountTest");
    private static final String FULL = Checks.times("a", 80);

    public static void main(String[] args) {
        countGoesOnWhereTheOneBeforeEnded();
        countGoesOnOnePlaceLaterBehindAnEmptyOne();
        countForgets();
        countLeavesLineTextAndPattern();
        countNeedsAPattern();
        checks.end();
    }

    private static void counted(int due, String pattern, String text) {
        checks.equal(pattern + " in " + text, due, Checks.machine(pattern, text).count());
    }

    private static void countGoesOnWhereTheOneBeforeEnded() {
        checks.about("How often it is FOUND, one after the other: from where the one before ended");
        counted(0, "a", "");
        counted(0, "a", "b");
        counted(1, "a", "a");
        counted(3, "a", "banana");
        counted(2, "aa", "aaaaa");
        counted(1, "ana", "banana");
        counted(1, "^a", "aaa");
        counted(2, "\\d+", "the cat The dog; 12-345");
        counted(80, "a", FULL);
        counted(40, "aa", FULL);
        counted(1, "a{5}a{5}a+", FULL);
        checks.equal("the one before is seen", 1, Checks.machine("\\ba", "aa").count());
    }

    private static void countGoesOnOnePlaceLaterBehindAnEmptyOne() {
        checks.about("or, if that was empty, one place later");
        counted(1, "", "");
        counted(2, "", "a");
        counted(4, "", "abc");
        counted(81, "", FULL);
        counted(81, "a*?", FULL);
        counted(2, "a*", FULL);
        counted(4, "x*", "axb");
        counted(3, "a*", "baa");
        counted(1, "$", "aaa");
        counted(1, "^", "aaa");
        counted(2, "\\b", " ab ");
        counted(3, "|a", "aa");
        counted(2, "a|$", "a");
        counted(3, "\\b|a", "aa");
    }

    private static void countForgets() {
        checks.about("count: Nothing has been found then");
        PatternMachine x = Checks.machine("a", "a");
        x.find(0);
        checks.equal("count", 1, x.count());
        checks.equal("found", 0, x.look(3));
        checks.fails("group", IllegalStateException.class, () -> x.group(0, false));
        x.find(0);
        Checks.compile(x, "(b)?", 0);
        x.find(0);
        checks.equal("count", 2, x.count());
        checks.equal("found", 0, x.look(3));
        PatternMachine none = Checks.machine("^b", "a");
        none.count();
        checks.equal("none counted", 0, none.look(3));
    }

    private static void countLeavesLineTextAndPattern() {
        checks.about("count: How often it is FOUND");
        PatternMachine x = Checks.machine("(a)", "aba");
        Checks.type(x, "line");
        checks.equal("count", 2, x.count());
        checks.equal("again", 2, x.count());
        checks.equal("text", "aba", Checks.text(x));
        checks.equal("groups", 1, x.look(0));
        checks.equal("line", "line", Checks.lineOf(x));
    }

    private static void countNeedsAPattern() {
        checks.about("count: IllegalStateException: there is no pattern");
        PatternMachine x = new PatternMachine();
        checks.fails("count", IllegalStateException.class, () -> x.count());
        Checks.addText(x, "aa");
        Checks.type(x, "a");
        checks.fails("count", IllegalStateException.class, () -> x.count());
        checks.equal("text stays", "aa", Checks.text(x));
        x.compile(0);
        checks.equal("with one", 2, x.count());
    }
}
