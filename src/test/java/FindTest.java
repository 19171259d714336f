/** Promises 7 to 9: find, matches, group. */
final class FindTest {
    private static final Checks checks = new Checks("FindTest");
    private static final String FULL = Checks.times("a", 80);

    public static void main(String[] args) {
        findGoesFromAPlaceOn();
        findSeesWhatStandsBefore();
        findForgetsIfNot();
        nothingIsLeftOfTheFindBefore();
        findNeedsAPattern();
        findRefusesPlacesOutside();
        findThatThrowsLeavesAll();
        matchesGoesFromTheBeginningToTheEnd();
        matchesFindsTheFirstSuchWay();
        matchesForgetsIfNot();
        matchesNeedsAPattern();
        groupTellsBeginAndEnd();
        groupNeedsSomethingFound();
        groupRefusesOtherNumbers();
        checks.end();
    }

    private static void findGoesFromAPlaceOn() {
        checks.about("find: Whether the pattern is FOUND from a place on");
        PatternMachine x = Checks.machine("a(b)?", "xabxa");
        checks.equal("find", true, x.find(0));
        checks.equal("from 0", "1-3 2-3", Checks.find(x, 0));
        checks.equal("from 1", "1-3 2-3", Checks.find(x, 1));
        checks.equal("from 2", "4-5 -", Checks.find(x, 2));
        checks.equal("from 4", "4-5 -", Checks.find(x, 4));
        checks.equal("at the end", false, x.find(5));
        checks.equal("nothing in nothing", "0-0", Checks.find(Checks.machine("", ""), 0));
        checks.equal("something in nothing", "none", Checks.find(Checks.machine("a", ""), 0));
        checks.equal("nothing at the end", "3-3", Checks.find(Checks.machine("", "abc"), 3));
        Checks.type(x, "line");
        x.find(0);
        checks.equal("text stays", "xabxa", Checks.text(x));
        checks.equal("line stays", "line", Checks.lineOf(x));
    }

    private static void findSeesWhatStandsBefore() {
        checks.about("^ is at the beginning; \\b: one of the characters before and behind is a w");
        checks.equal("^", "none", Checks.find(Checks.machine("^b", "ab"), 1));
        checks.equal("\\b", "none", Checks.find(Checks.machine("\\bb", "ab"), 1));
        checks.equal("\\B", "1-2", Checks.find(Checks.machine("\\Bb", "ab"), 1));
        checks.equal("^ behind a 10", "2-3", Checks.find(Checks.machine("^b", 2, "a\nb"), 2));
    }

    private static void findForgetsIfNot() {
        checks.about("find: what was found is forgotten if not");
        PatternMachine x = Checks.machine("a", "ab");
        x.find(0);
        checks.equal("find", false, x.find(1));
        checks.equal("found", 0, x.look(3));
        checks.fails("group", IllegalStateException.class, () -> x.group(0, false));
        checks.equal("again", true, x.find(0));
        checks.equal("found again", "0-1", Checks.caught(x));
    }

    private static void nothingIsLeftOfTheFindBefore() {
        checks.about("A pattern is FOUND from a place on: the least place from there on from which it has a way");
        String text = "ab\nab";
        for (String pattern : new String[] {"a?$()|", "(a)|b", "(a*)(b)?", "b$|", "(?:a?\\b(b)|)", "(a)?\\B()|b", "^(a)|$"}) {
            for (int before = 0; before <= text.length(); before++) {
                for (int from = 0; from <= text.length(); from++) {
                    PatternMachine x = Checks.machine(pattern, text);
                    x.find(before);
                    String due = Checks.find(Checks.machine(pattern, text), from);
                    checks.equal(pattern + " from " + from + " behind " + before, due, Checks.find(x, from));
                    x.matches();
                    checks.equal(pattern + " from " + from + " behind matches", due, Checks.find(x, from));
                }
            }
        }
        PatternMachine x = Checks.machine("a?$()|", "ab");
        checks.equal("not at the end", "0-0 -", Checks.find(x, 0));
        checks.equal("at the end", "2-2 2-2", Checks.find(x, 2));
    }

    private static void findNeedsAPattern() {
        checks.about("find: IllegalStateException: there is no pattern; else IndexOutOfBoundsException");
        PatternMachine x = new PatternMachine();
        Checks.addText(x, "abc");
        Checks.type(x, "a");
        for (int from : new int[] {0, 3, -1, 4, Integer.MIN_VALUE, Integer.MAX_VALUE}) {
            checks.fails("find " + from, IllegalStateException.class, () -> x.find(from));
        }
        checks.equal("text stays", "abc", Checks.text(x));
        checks.equal("line stays", "a", Checks.lineOf(x));
    }

    private static void findRefusesPlacesOutside() {
        checks.about("find: IndexOutOfBoundsException: from is not 0 .. the length of the text");
        for (int length : new int[] {0, 1, 3, 79, 80}) {
            PatternMachine x = Checks.machine("", FULL.substring(0, length));
            checks.equal("the first place", "0-0", Checks.find(x, 0));
            checks.equal("the last place", length + "-" + length, Checks.find(x, length));
            int[] outside = {-1, length + 1, length + 2, 81, 1000, Integer.MIN_VALUE, Integer.MAX_VALUE};
            for (int from : outside) {
                checks.fails("find " + from, IndexOutOfBoundsException.class, () -> x.find(from));
            }
        }
    }

    private static void findThatThrowsLeavesAll() {
        checks.about("find: what was found is forgotten if not (nothing is said of a place outside)");
        PatternMachine x = Checks.machine("(a)", "xa");
        x.find(0);
        Checks.type(x, "line");
        checks.fails("find", IndexOutOfBoundsException.class, () -> x.find(3));
        checks.equal("found stays", "1-2 1-2", Checks.caught(x));
        checks.equal("text stays", "xa", Checks.text(x));
        checks.equal("pattern stays", "1-2 1-2", Checks.find(x, 1));
        checks.equal("line stays", "line", Checks.lineOf(x));
    }

    private static void matchesGoesFromTheBeginningToTheEnd() {
        checks.about("Whether there is a way from the beginning of the text to its end");
        checks.matched("0-3", "abc", "abc");
        checks.matched("none", "ab", "abc");
        checks.matched("none", "bc", "abc");
        checks.matched("none", "abcd", "abc");
        checks.matched("0-0", "", "");
        checks.matched("none", "", "a");
        checks.matched("none", "a", "");
        checks.matched("0-80", ".*", FULL);
        checks.matched("none", ".*b", FULL);
        PatternMachine x = Checks.machine("a*", "aa");
        Checks.type(x, "line");
        x.matches();
        checks.equal("text stays", "aa", Checks.text(x));
        checks.equal("line stays", "line", Checks.lineOf(x));
    }

    private static void matchesFindsTheFirstSuchWay() {
        checks.about("the first such one is found then");
        checks.matched("0-2 0-2", "(a|ab)", "ab");
        checks.matched("0-4 0-1 1-4 4-4", "(a|ab)(c|bcd)(d*)", "abcd");
        checks.matched("0-3 0-0 0-3", "(a*?)(a*)", "aaa");
        checks.matched("0-3 0-3 3-3", "(a*)(a*)", "aaa");
        checks.matched("0-3", "a*?", "aaa");
        checks.matched("0-2 0-2 - 0-2", "((a)|(ab))", "ab");
    }

    private static void matchesForgetsIfNot() {
        checks.about("else what was found is forgotten");
        PatternMachine x = Checks.machine("a", "ab");
        x.find(0);
        checks.equal("matches", false, x.matches());
        checks.equal("found", 0, x.look(3));
        checks.fails("group", IllegalStateException.class, () -> x.group(0, false));
    }

    private static void matchesNeedsAPattern() {
        checks.about("matches: IllegalStateException: there is no pattern");
        PatternMachine x = new PatternMachine();
        checks.fails("matches", IllegalStateException.class, () -> x.matches());
        Checks.addText(x, "a");
        Checks.type(x, "a");
        checks.fails("matches", IllegalStateException.class, () -> x.matches());
        checks.equal("text stays", "a", Checks.text(x));
        x.compile(0);
        checks.equal("with one", true, x.matches());
    }

    private static void groupTellsBeginAndEnd() {
        checks.about("Where a group of what was found begins, or ends; 0 is the whole; -1 if it is not there");
        PatternMachine x = Checks.machine("(a)|b(c)", "xbc");
        x.find(0);
        checks.equal("begin of the whole", 1, x.group(0, false));
        checks.equal("end of the whole", 3, x.group(0, true));
        checks.equal("begin of one that is not there", -1, x.group(1, false));
        checks.equal("end of one that is not there", -1, x.group(1, true));
        checks.equal("begin", 2, x.group(2, false));
        checks.equal("end", 3, x.group(2, true));
        checks.equal("found stays", 1, x.look(3));
        PatternMachine full = Checks.machine("()a*()", FULL);
        full.matches();
        checks.equal("from one end to the other", "0-80 0-0 80-80", Checks.caught(full));
    }

    private static void groupNeedsSomethingFound() {
        checks.about("group: IllegalStateException: nothing was found; else IndexOutOfBoundsException");
        PatternMachine without = new PatternMachine();
        PatternMachine notYet = Checks.machine("(a)", "a");
        PatternMachine notFound = Checks.machine("(a)", "b");
        notFound.find(0);
        for (int k : new int[] {0, 1, -1, 2, 5, Integer.MIN_VALUE, Integer.MAX_VALUE}) {
            checks.fails("no pattern, group " + k, IllegalStateException.class, () -> without.group(k, false));
            checks.fails("nothing sought, group " + k, IllegalStateException.class, () -> notYet.group(k, true));
            checks.fails("not found, group " + k, IllegalStateException.class, () -> notFound.group(k, false));
        }
    }

    private static void groupRefusesOtherNumbers() {
        checks.about("group: IndexOutOfBoundsException: the pattern has no such group");
        for (int groups = 0; groups <= 4; groups++) {
            PatternMachine x = Checks.machine(Checks.times("(a)", groups), FULL);
            x.find(0);
            String before = Checks.caught(x);
            checks.equal("the last one ends", groups, x.group(groups, true));
            int[] others = {-1, groups + 1, 5, 6, Integer.MIN_VALUE, Integer.MAX_VALUE};
            for (int k : others) {
                checks.fails(k + " of " + groups, IndexOutOfBoundsException.class, () -> x.group(k, false));
                checks.fails(k + " of " + groups, IndexOutOfBoundsException.class, () -> x.group(k, true));
            }
            checks.equal("found stays", before, Checks.caught(x));
        }
    }
}
