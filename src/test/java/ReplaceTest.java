/** Promise 11: replace. */
final class ReplaceTest {
    private static final Checks checks = new Checks("ReplaceTest");
    private static final String FULL = Checks.times("a", 80);

    public static void main(String[] args) {
        allThatIsCountedIsReplaced();
        dollarAndADigit();
        dollarAndAGroupThatIsNotThere();
        dollarAndDollar();
        otherCharactersAreThemselves();
        theLineIsEmptyThen();
        upToEightyCharactersComeOut();
        replaceForgets();
        replaceLeavesThePattern();
        replaceNeedsAPattern();
        wrongDollars();
        digitsThatThePatternHas();
        wrongDollarsWhereNothingIsFound();
        whenThrownLineTextAndFoundStay();
        checks.end();
    }

    private static void replaced(String due, int places, String pattern, String text, String template) {
        PatternMachine x = Checks.machine(pattern, text);
        String what = pattern + " in " + text + " to " + template;
        checks.equal("places of " + what, places, Checks.replace(x, template));
        checks.equal(what, due, Checks.text(x));
        checks.equal("length behind " + what, due.length(), x.look(2));
    }

    private static void allThatIsCountedIsReplaced() {
        checks.about("All that count() counts becomes what the line as a TEMPLATE says; how many places were replaced");
        replaced("b<>n<>n<>", 3, "a", "banana", "<>");
        replaced("bnn", 3, "a", "banana", "");
        replaced("", 1, "a*b", FULL.substring(1) + "b", "");
        replaced("ab", 0, "x", "ab", "y");
        replaced("", 0, "x", "", "y");
        replaced("y", 1, "", "", "y");
        replaced("-a--b-", 4, "x*", "axb", "-");
        replaced("-a-b-", 3, "", "ab", "-");
        replaced("bb", 2, "a", "aa", "b");
        replaced("xaxa", 2, "a", "aa", "xa");
    }

    private static void dollarAndADigit() {
        checks.about("$ and a digit 0 .. 4 that the pattern has: what it caught");
        replaced("<the> cat <The> dog", 2, "\\b[tT]he\\b", "the cat The dog", "<$0>");
        replaced("4321", 1, "(.)(.)(.)(.)", "1234", "$4$3$2$1");
        replaced("12341234", 1, "(.)(.)(.)(.)", "1234", "$0$1$2$3$4");
        replaced("aaaa", 2, "a", "aa", "$0$0");
        replaced("a0a0", 2, "a", "aa", "$00");
        replaced("b1a", 1, "(b)(a)", "ba", "$11$2");
        replaced("ba", 1, "()(b)()", "ba", "$1$2$3");
    }

    private static void dollarAndAGroupThatIsNotThere() {
        checks.about("nothing if it is not there");
        replaced("[a,][,b]c", 2, "(a)|(b)", "abc", "[$1,$2]");
        replaced("bc", 1, "(a){0}b", "bc", "$1$0");
        replaced("", 2, "(x)?a", "aa", "$1");
    }

    private static void dollarAndDollar() {
        checks.about("$$ a $");
        replaced("$a", 1, "b", "ba", "$$");
        replaced("$$a", 1, "b", "ba", "$$$$");
        replaced("$0a", 1, "b", "ba", "$$0");
        replaced("$ba", 1, "b", "ba", "$$$0");
        replaced("<the$t>", 1, "([tT])he", "the", "<$0$$$1>");
    }

    private static void otherCharactersAreThemselves() {
        checks.about("other characters themselves");
        replaced("(.)\\n1", 1, "2", "21", "(.)\\n");
        replaced("\n^|*&", 1, "a", "a", "\n^|*&");
        for (char c : Checks.ALL.replace("$", "").toCharArray()) {
            replaced("x" + c + "y", 1, "a", "xay", String.valueOf(c));
        }
    }

    private static void theLineIsEmptyThen() {
        checks.about("The line is empty then");
        PatternMachine x = Checks.machine("a", "ab");
        Checks.replace(x, "xyz");
        checks.equal("line", 0, x.look(1));
        Checks.replace(x, "q");
        checks.equal("line if there are no places", 0, x.look(1));
        checks.equal("text then", "xyzb", Checks.text(x));
        Checks.replace(x, Checks.times("q", 40));
        checks.equal("a full line", 0, x.look(1));
    }

    private static void upToEightyCharactersComeOut() {
        checks.about("the text what comes out, up to 80 characters of it");
        replaced(FULL.substring(1) + "x", 1, "a$", FULL, "x");
        replaced(FULL.substring(1) + "x", 1, "a$", FULL, "xyz");
        replaced(FULL.substring(1) + "x", 1, "$", FULL.substring(1), "xy");
        replaced(FULL.substring(2) + "xy", 1, "$", FULL.substring(2), "xy");
        replaced("xyz" + FULL.substring(3), 1, "^a", FULL, "xyz");
        replaced("xyz" + FULL.substring(3), 1, "^a", FULL.substring(2), "xyz");
        replaced("xyz" + FULL.substring(4), 1, "^a", FULL.substring(3), "xyz");
        replaced(Checks.times("bc", 40), 80, "a", FULL, "bc");
        replaced(FULL, 80, "a", FULL, "$0$0");
        replaced(Checks.times("-a", 40), 81, "", FULL, "-");
        replaced(Checks.times("x", 80), 80, "a", FULL, Checks.times("x", 40));
        replaced(FULL, 1, "$", FULL, "x");
        replaced(Checks.times("b", 80), 80, "a", FULL, "b");
        replaced("", 80, "a", FULL, "");
    }

    private static void replaceForgets() {
        checks.about("replace: Nothing has been found then");
        PatternMachine x = Checks.machine("a", "ab");
        x.find(0);
        checks.equal("places", 1, Checks.replace(x, "a"));
        checks.equal("found", 0, x.look(3));
        checks.fails("group", IllegalStateException.class, () -> x.group(0, false));
        PatternMachine y = Checks.machine("()", "");
        y.find(0);
        checks.equal("places", 1, y.replace());
        checks.equal("found, though the text is as before", 0, y.look(3));
    }

    private static void replaceLeavesThePattern() {
        checks.about("replace: The line is empty then, the text what comes out");
        PatternMachine x = Checks.machine("(a)", "ab");
        Checks.replace(x, "b$1");
        checks.equal("pattern", "1-2 1-2", Checks.find(x, 0));
        checks.equal("again", 1, Checks.replace(x, "$1$1"));
        checks.equal("text", "baab", Checks.text(x));
    }

    private static void replaceNeedsAPattern() {
        checks.about("replace: IllegalStateException: there is no pattern; else IllegalArgumentException");
        for (String template : new String[] {"", "x", "$0", "$", "$9"}) {
            PatternMachine x = new PatternMachine();
            Checks.addText(x, "ab");
            Checks.type(x, template);
            checks.fails("replace " + template, IllegalStateException.class, () -> x.replace());
            checks.equal("text stays", "ab", Checks.text(x));
            checks.equal("line stays", template, Checks.lineOf(x));
        }
    }

    private static void wrongTemplate(String pattern, String text, String template) {
        PatternMachine x = Checks.machine(pattern, text);
        Checks.type(x, template);
        checks.fails(template + " with " + pattern, IllegalArgumentException.class, () -> x.replace());
    }

    private static void wrongDollars() {
        checks.about("IllegalArgumentException: a $ is not as it must be");
        for (char c : Checks.ALL.replaceAll("[$01234]", "").toCharArray()) {
            wrongTemplate("(a)(b)(c)(d)", "abcd", "$" + c);
        }
        for (String template : new String[] {"$", "x$", "$$$", "$0$", "$$$$$", "x$y", "$0$5", "$ 0", "$-1", "$(0)", "$\n"}) {
            wrongTemplate("(a)(b)(c)(d)", "abcd", template);
        }
        wrongTemplate("(a)", "a", Checks.times("x", 39) + "$");
        replaced(Checks.times("x", 38) + "$", 1, "(a)", "a", Checks.times("x", 38) + "$$");
    }

    private static void digitsThatThePatternHas() {
        checks.about("a digit 0 .. 4 that the pattern has");
        for (int groups = 0; groups <= 4; groups++) {
            String pattern = "(?:x)" + Checks.times("(a)", groups);
            for (int digit = 0; digit <= 9; digit++) {
                if (digit > groups) {
                    wrongTemplate(pattern, "xaaaa", "$" + digit);
                } else {
                    String due = digit == 0 ? "x" + Checks.times("a", groups) : "a";
                    replaced(due, 1, pattern, "x" + Checks.times("a", groups), "$" + digit);
                }
            }
        }
    }

    private static void wrongDollarsWhereNothingIsFound() {
        checks.about("IllegalArgumentException: a $ is not as it must be");
        wrongTemplate("(x)", "bab", "$2");
        wrongTemplate("(x)", "", "$");
    }

    private static void whenThrownLineTextAndFoundStay() {
        checks.about("When something is thrown line, text and what was found stay");
        for (String template : new String[] {"$", "x$0$2", "$1$", "$$$a"}) {
            PatternMachine x = Checks.machine("(a)", "bab");
            x.find(0);
            Checks.type(x, template);
            checks.fails("replace " + template, IllegalArgumentException.class, () -> x.replace());
            checks.equal("text behind " + template, "bab", Checks.text(x));
            checks.equal("found behind " + template, "1-2 1-2", Checks.caught(x));
            checks.equal("pattern behind " + template, "1-2 1-2", Checks.find(x, 1));
            checks.equal("line behind " + template, template, Checks.lineOf(x));
        }
    }
}
