/** The section "Terms", as far as it says what a PATTERN finds: characters, FLAGS, WAYS, LAZY, CATCHES, FOUND, SIZE. */
final class MeaningTest {
    private static final Checks checks = new Checks("MeaningTest");
    private static final String DIGITS = Checks.signs('0', '9');
    private static final String WORDS = DIGITS + Checks.signs('A', 'Z') + "_" + Checks.signs('a', 'z');
    private static final String LONG = Checks.times("a", 80);

    public static void main(String[] args) {
        oneCharacterAfterTheOther();
        classesOfCharacters();
        escapedSigns();
        sets();
        lettersWithoutRegardToCapitals();
        setsWithoutRegardToCapitals();
        beginAndEndOfTheText();
        beginAndEndOfLines();
        dotAndNewLine();
        edgesOfWords();
        noEdgesOfWords();
        chainsInOrder();
        piecesInOrder();
        questionMark();
        star();
        plus();
        times();
        timesOrMore();
        timesToTimes();
        turnsThatTakeNothing();
        emptyTurnsThatAreAllowed();
        lazyCounts();
        groupsAreNumberedByTheirBrackets();
        groupsCatch();
        groupsForgetEarlierTurns();
        groupsThatAreNotThere();
        theLeastPlaceIsFound();
        sizes();
        largestPatterns();
        hardPatternsEnd();
        checks.end();
    }

    private static String without(String regex) {
        return Checks.ALL.replaceAll(regex, "");
    }

    private static void oneCharacterAfterTheOther() {
        checks.about("An ATOM for one character has one way, if the next one is so");
        String[] atoms = {"1", "a", "\\d", "\\w", "\\s", "[0-9]", "[a-z]", "[^a]", "[^0]", ".", "\\D", "-", "\\n", "[?@]"};
        String signs = "1a \n-b0?@";
        for (String first : atoms) {
            for (String second : atoms) {
                for (char c : signs.toCharArray()) {
                    for (char d : signs.toCharArray()) {
                        boolean due = Checks.matches(first, "" + c) && Checks.matches(second, "" + d);
                        checks.equal(first + second + " in " + c + d, due, Checks.matches(first + second, "" + c + d));
                    }
                }
            }
        }
        checks.found("none", "1a", "11");
        checks.found("none", "a1", "aa");
    }

    private static void classesOfCharacters() {
        checks.about("d: 0 .. 9; w: letters, digits, _; s: 32 and 10; capitals: others than these");
        checks.takes(DIGITS, "\\d", 0);
        checks.takes(WORDS, "\\w", 0);
        checks.takes("\n ", "\\s", 0);
        checks.takes(without("[0-9]"), "\\D", 0);
        checks.takes(without("[0-9A-Za-z_]"), "\\W", 0);
        checks.takes(Checks.signs(33, 126), "\\S", 0);
        checks.takes(DIGITS, "[\\d]", 0);
        checks.takes(WORDS, "[\\w]", 0);
        checks.takes("\n ", "[\\s]", 0);
        for (String every : new String[] {"\\d", "\\D", "\\w", "\\W", "\\s", "\\S", ".", "[^a]"}) {
            checks.matched("none", every, "");
        }
    }

    private static void escapedSigns() {
        checks.about("\\ and n (10); \\ and a sign 33 .. 126 that is no letter or digit: that");
        checks.takes("\n", "\\n", 0);
        checks.takes("\n", "[\\n]", 0);
        for (char c : "!\"#$%&'()*+,-./:;<=>?@[\\]^_`{|}~".toCharArray()) {
            checks.takes(String.valueOf(c), "\\" + c, 0);
            checks.takes(String.valueOf(c), "[\\" + c + "]", 0);
        }
    }

    private static void sets() {
        checks.about("SET: [ perhaps ^ (all others), then ITEMs");
        checks.takes("abc", "[cab]", 0);
        checks.takes("cdef", "[c-f]", 0);
        checks.takes(without("[c-f]"), "[^c-f]", 0);
        checks.takes(without("[a^]"), "[^a^]", 0);
        checks.takes(without("[\\^]"), "[^^]", 0);
        checks.takes("$()*+.?[{|", "[[({)*+?.|$]", 0);
        checks.takes("\n0123456789", "[\\d\\n]", 0);
        checks.takes("-\\]", "[\\]\\-\\\\]", 0);
        checks.takes("\n ", "[ \n]", 0);
        checks.takes("abcxyz", "[a-cx-z]", 0);
        checks.takes("-./", "[--/]", 0);
        checks.takes("+,-", "[+--]", 0);
        checks.takes("-abce", "[a-c-e]", 0);
        checks.takes(Checks.ALL, "[\n-~]", 0);
        checks.takes("", "[^\n-~]", 0);
        checks.takes("\n", "[^ -~]", 0);
    }

    private static void lettersWithoutRegardToCapitals() {
        checks.about("FLAGS: 1 letters are the same without regard to capitals");
        for (char c : Checks.ALL.replaceAll("[|()\\[*+?{.^$\\\\]", "").toCharArray()) {
            String small = String.valueOf(c).toLowerCase();
            String capital = String.valueOf(c).toUpperCase();
            checks.takes(small.equals(capital) ? small : capital + small, String.valueOf(c), 1);
            checks.takes(String.valueOf(c), String.valueOf(c), 6);
        }
        checks.takes("[", "\\[", 1);
        checks.takes("{", "\\{", 1);
        checks.takes(without("[A-Za-z0-9_]"), "\\W", 1);
        checks.takes(without("[0-9]"), "\\D", 1);
    }

    private static void setsWithoutRegardToCapitals() {
        checks.about("also in sets: a character is in it if it, or its other form, is; ^ turns that about");
        checks.takes("ABCabc", "[a-c]", 1);
        checks.takes("ABCabc", "[A-C]", 1);
        checks.takes("AZaz", "[aZ]", 1);
        checks.takes("1_", "[1_]", 1);
        checks.takes("@ABab", "[@-B]", 1);
        checks.takes("AB`ab", "[`-b]", 1);
        checks.takes("Z[z", "[Z-[]", 1);
        checks.takes("Zz{", "[z-{]", 1);
        checks.takes(without("[aA]"), "[^a]", 1);
        checks.takes(without("[aA]"), "[^A]", 1);
        checks.takes(without("a"), "[^a]", 0);
        checks.takes(without("a"), "[^a]", 6);
        checks.takes(without("[A-Za-z]"), "[^a-z]", 1);
    }

    private static void beginAndEndOfTheText() {
        checks.about("^ is at the beginning, $ at the end of the text");
        checks.found("0-0", "^$", "");
        checks.found("0-0", "^", "ab");
        checks.found("2-2", "$", "ab");
        checks.found("none", "^b", "ab");
        checks.found("none", "a$", "ab");
        checks.found("none", "^a", 5, "b\na");
        checks.found("none", "a$", 5, "a\n");
        checks.found("none", "^$", "a\n");
        checks.found("2-3", "a$", "a\na");
        checks.equal("only the beginning", 1, Checks.machine("^", "\n\n").count());
        checks.equal("only the end", 1, Checks.machine("$", "\n\n").count());
        checks.equal("^ is not where find begins", "none", Checks.find(Checks.machine("^b", "ab"), 1));
    }

    private static void beginAndEndOfLines() {
        checks.about("2 ^ and $ also behind and before a 10");
        checks.found("2-3", "^a", 2, "b\na");
        checks.found("0-1", "a$", 2, "a\na");
        checks.found("0-1", "a$", 2, "a\n");
        checks.found("2-2", "^$", 2, "a\n");
        checks.found("0-0", "^$", 2, "\na");
        checks.found("0-0", "^$", 2, "");
        checks.found("none", "^b", 2, "ab");
        checks.found("none", "a$", 2, "ab");
        checks.equal("every line's beginning", 3, Checks.machine("^", 2, "\n\n").count());
        checks.equal("every line's end", 3, Checks.machine("$", 2, "\n\n").count());
        checks.equal("the beginnings", 2, Checks.machine("^", 2, "a\nb").count());
        checks.equal("the ends", 2, Checks.machine("$", 2, "a\nb").count());
    }

    private static void dotAndNewLine() {
        checks.about(". is any character but 10; 4 . is also 10");
        checks.takes(Checks.signs(32, 126), ".", 0);
        checks.takes(Checks.signs(32, 126), ".", 3);
        checks.takes(Checks.ALL, ".", 4);
        checks.takes(".", "[.]", 4);
    }

    private static void edgesOfWords() {
        checks.about("\\b: one of the characters before and behind is a w, the other one not (or there is none)");
        checks.found("0-0", "\\b", "a");
        checks.found("1-1", "\\b", " a ");
        checks.found("1-2", "a\\b", "aa a");
        checks.found("2-3", "\\ba", "_ a");
        checks.equal("at both ends", 2, Checks.machine("\\b", "ab").count());
        checks.equal("not in an empty text", 0, Checks.machine("\\b", "").count());
        checks.equal("not between others", 0, Checks.machine("\\b", " ;\n").count());
        for (char c : Checks.ALL.toCharArray()) {
            boolean isWord = WORDS.indexOf(c) >= 0;
            checks.equal("edges of " + c, isWord ? 2 : 0, Checks.machine("\\b", String.valueOf(c)).count());
            checks.equal("edges of a" + c, 2, Checks.machine("\\b", "a" + c).count());
            checks.equal("edge behind a" + c, !isWord, Checks.machine("^a\\b", "a" + c).find(0));
        }
    }

    private static void noEdgesOfWords() {
        checks.about("\\B: otherwise");
        checks.found("0-0", "\\B", "");
        checks.found("0-0", "\\B", " a");
        checks.found("1-1", "\\B", "ab");
        checks.found("none", "\\B", "a");
        checks.equal("all places between others", 3, Checks.machine("\\B", " ;").count());
    }

    private static void chainsInOrder() {
        checks.about("of CHAINs those of the first, then of the second, and so on");
        checks.found("0-1", "a|ab", "ab");
        checks.found("0-2", "ab|a", "ab");
        checks.found("0-0", "|a", "a");
        checks.found("0-1", "a|", "a");
        checks.found("0-1", "x|a|ab", "ab");
        checks.found("0-2", "x|ab|a", "ab");
        checks.found("0-1 0-0", "(|a)a", "a");
    }

    private static void piecesInOrder() {
        checks.about("of a CHAIN those of its first PIECE, each with all ways of the rest behind it, in order");
        checks.found("0-2 0-1 1-2", "(a|ab)(b|)", "ab");
        checks.found("0-3 0-2 2-3", "(a|ab)(c)", "abc");
        checks.found("0-1", "a(?:b*c)?", "abbd");
        checks.found("0-4", "a(?:b*c)?", "abbc");
        checks.matched("0-4 0-1 1-4 4-4", "(a|ab)(c|bcd)(d*)", "abcd");
    }

    private static void questionMark() {
        checks.about("a?: the ways of a, then to take nothing");
        checks.found("0-1", "a?", "aa");
        checks.found("0-0", "a?", "b");
        checks.found("0-0", "a?", "");
        checks.found("0-1 0-0", "(a?)a", "a");
    }

    private static void star() {
        checks.about("a*: each way of a that takes at least a character, with all ways of a* behind it; then to take nothing");
        checks.found("0-0", "a*", "");
        checks.found("0-0", "a*", "b");
        checks.found("0-1", "a*", "ab");
        checks.found("0-80", "a*", LONG);
        checks.found("0-3 0-2", "(a*)a", "aaa");
        checks.found("0-2", "(?:a|ab)*", "aab");
        checks.found("0-3", "(?:ab|a)*", "aab");
        checks.matched("0-3", "(?:a|ab)*", "aab");
    }

    private static void plus() {
        checks.about("a+: a, then a*");
        checks.found("none", "a+", "");
        checks.found("none", "a+", "b");
        checks.found("0-1", "a+", "ab");
        checks.found("0-80", "a+", LONG);
        checks.found("0-0 0-0", "(a*)+", "b");
    }

    private static void times() {
        checks.about("a{m}: a m times; a{0} takes nothing");
        for (int m = 0; m <= 5; m++) {
            checks.found("0-" + m, "a{" + m + "}", "aaaaaa");
            checks.matched("0-" + m, "a{" + m + "}", Checks.times("a", m));
            checks.matched("none", "a{" + m + "}", Checks.times("a", m + 1));
            checks.matched("none", "a{" + (m == 0 ? 1 : m) + "}", Checks.times("a", m == 0 ? 0 : m - 1));
        }
        checks.found("0-0 -", "(a){0}", "a");
        checks.found("0-0 -", "(a){0,0}", "a");
    }

    private static void timesOrMore() {
        checks.about("a{m,}: that, then a*");
        for (int m = 0; m <= 5; m++) {
            checks.found("0-80", "a{" + m + ",}", LONG);
            checks.matched("0-" + m, "a{" + m + ",}", Checks.times("a", m));
            checks.matched("none", "a{" + (m == 0 ? 1 : m) + ",}", Checks.times("a", m == 0 ? 0 : m - 1));
        }
    }

    private static void timesToTimes() {
        checks.about("a{m,n}: a m times, and then, if n is above m, (a and then a{0,n-m-1})?");
        for (int m = 0; m <= 5; m++) {
            for (int n = m; n <= 5; n++) {
                String pattern = "a{" + m + "," + n + "}";
                checks.found("0-" + n, pattern, "aaaaaa");
                for (int length = 0; length <= 6; length++) {
                    boolean fits = length >= m && length <= n;
                    checks.matched(fits ? "0-" + length : "none", pattern, Checks.times("a", length));
                }
            }
        }
    }

    private static void turnsThatTakeNothing() {
        checks.about("each way of a that takes at least a character");
        checks.found("0-0 -", "(a*)*", "b");
        checks.found("0-2 0-2", "(a*)*", "aab");
        checks.found("0-0 -", "(|a)*", "b");
        checks.found("0-2 1-2", "(|a)*", "aa");
        checks.found("0-0 -", "()*", "a");
        checks.found("0-1 0-1", "(a|b*)*", "a");
        checks.found("0-3", "(?:b*?)*", "bbb");
        checks.found("0-4 3-4", "(.*?)*", "aaba");
        checks.found("0-2 -", "(?:()*a)+", "aa");
        checks.found("0-1 0-1 -", "(|()*c)+", "c");
        checks.found("0-0 -", "(^)*", "a");
        checks.found("0-2 1-2", "(\\b|a)*", "aa");
    }

    private static void emptyTurnsThatAreAllowed() {
        checks.about("That a? takes something is not asked");
        checks.found("0-0 0-0", "(a*)?", "b");
        checks.found("0-0 0-0", "()?", "a");
        checks.found("0-0 0-0", "(|a)?", "a");
        checks.found("0-0 0-0", "(){0,1}", "a");
        checks.found("0-2 2-2", "(a|){3}", "aa");
        checks.found("0-2 2-2", "(a|){0,5}", "aa");
        checks.found("0-0 0-0", "(){2,}", "a");
        checks.found("0-2 0-2", "(a*)+", "aab");
        checks.found("0-2 1-2", "(|a)+", "aa");
    }

    private static void lazyCounts() {
        checks.about("LAZY: of a? and of each a* and ( )? that a COUNT is made of, to take nothing comes first");
        checks.found("0-0", "a??", "aaa");
        checks.found("0-0", "a*?", "aaa");
        checks.found("0-1", "a+?", "aaa");
        checks.found("0-2", "a{2}?", "aaa");
        checks.found("0-2", "a{2,}?", "aaa");
        checks.found("0-1", "a{1,3}?", "aaaa");
        checks.found("0-4", "a{1,3}?b", "aaab");
        checks.found("1-5", "a{1,3}?b", "aaaab");
        checks.found("0-4", "a*?b", "aaab");
        checks.found("0-0 -", "(a*)??", "b");
        checks.found("0-0 0-0", "(|a)+?", "aa");
        checks.matched("0-3 0-0 0-3", "(a*?)(a*)", "aaa");
        checks.matched("0-3 0-1 1-3", "(a+?)(a*)", "aaa");
        checks.matched("0-3 0-1 1-3", "(a{1,2}?)(a*)", "aaa");
    }

    private static void groupsAreNumberedByTheirBrackets() {
        checks.about("a GROUP, numbered by its ( from 1 on");
        checks.found("0-4 0-3 1-2 2-3 3-4", "(a(b)(c))(d)", "abcd");
        checks.found("0-4 0-4 0-3 0-2 0-1", "((((a)b)c)d)", "abcd");
        checks.found("0-2 1-2", "(?:a)(b)", "ab");
        checks.found("0-2 1-2", "\\(([(])", "((");
        checks.found("0-1 - 0-1", "(a)|(b)", "b");
    }

    private static void groupsCatch() {
        checks.about("A GROUP CATCHES from where its way begins to where it ends");
        checks.found("1-2 1-2", "(b)", "ab");
        checks.found("0-4 0-2 0-1 3-4", "((a).)(?:.)(b)", "axxb");
        checks.found("1-1 1-1", "\\b()", " a");
        checks.found("0-80 0-80 0-80 0-80 0-80", "((((a*))))", LONG);
        checks.found("0-80 79-80", "(a)*", LONG);
        checks.found("0-80 80-80", "a*()", LONG);
    }

    private static void groupsForgetEarlierTurns() {
        checks.about("what it caught before, in an earlier turn, is forgotten then");
        checks.found("0-3 2-3", "(.)*", "abc");
        checks.found("0-2 1-2", "(a){2}", "aa");
        checks.found("0-3 2-3", "(a|b|c){1,5}", "abc");
        checks.found("0-4 2-4 3-4", "(.(x)?)*", "axbx");
        checks.found("0-2 1-2 0-1", "((a)|b)*", "ab");
    }

    private static void groupsThatAreNotThere() {
        checks.about("what it has not caught in the way, is not there");
        checks.found("0-1 - -", "(?:(b)|a|(c)){1}", "a");
        checks.found("0-1 - 0-1", "(a){0}(b)", "b");
        checks.found("0-3 - 2-3", "(x)?(?:a|(b))*", "aab");
        checks.found("0-1 -", "a(b)?", "a");
        checks.found("0-2 -", "(?:a(c)|ab)", "ab");
        checks.found("0-0 - - - -", "(a)*(b)*(c)*(d)*", "");
    }

    private static void theLeastPlaceIsFound() {
        checks.about("FOUND: the least place from there on from which it has a way; the first one");
        checks.found("1-2", "b", "ab");
        checks.found("0-2", "b|ab", "ab");
        checks.found("1-2", "aab|a", "caac");
        checks.found("0-0", "b*", "abb");
        checks.found("79-80", "b", Checks.times("a", 79) + "b");
        checks.found("80-80", "$", LONG);
    }

    private static void sizes() {
        checks.about("SIZE of a pattern");
        checks.size(0, "");
        checks.size(3, "abc");
        checks.size(5, "^a$\\b\\B");
        checks.size(4, ".[a-z]\\d\\.");
        checks.size(3, "(a)");
        checks.size(1, "(?:a)");
        checks.size(4, "a|b");
        checks.size(7, "a|b|c");
        checks.size(2, "a?");
        checks.size(3, "a*");
        checks.size(4, "a+");
        checks.size(5, "(a)*");
        checks.size(8, "(a)+");
        checks.size(0, "(a){0}");
        checks.size(11, "(a){2,}");
        checks.size(14, "(a){2,4}");
        checks.size(18, "(?:(ab)|c*){2}");
        checks.size(3, "a*?");
        checks.size(4, "()*");
    }

    private static void largestPatterns() {
        checks.about("UnsupportedOperationException: its SIZE is above 120");
        PatternMachine x = Checks.machine("(?:(?:(?:a?){5}){4}){3}", LONG);
        checks.equal("60 times a?", "0-60", Checks.find(x, 0));
        checks.equal("the rest", "60-80", Checks.find(x, 60));
        checks.equal("places", 3, x.count());
        PatternMachine nine = Checks.machine("((((" + Checks.times("(?:", 4) + "a*" + Checks.times(")*", 8), LONG);
        checks.equal("nine stars", "0-80 0-80 0-80 0-80 0-80", Checks.find(nine, 0));
        checks.equal("nine stars at the end", "80-80 - - - -", Checks.find(nine, 80));
    }

    private static void hardPatternsEnd() {
        checks.about("threads go along a text side by side");
        checks.found("none", "(a*)*b", LONG);
        checks.found("none", "(?:a|a)*b", LONG);
        checks.found("none", "(?:(?:(?:(?:a*)*)*)*)*b", LONG);
        checks.found("none", "(?:(?:(?:(?:(?:(?:(a*)*)*)*)*)*)*)*b", LONG);
        checks.found("0-80 0-80", "((?:a?){5}a*)*", LONG);
        checks.matched("none", "(?:a{0,5}){5}", LONG);
        checks.equal("count", 80, Checks.machine("(?:a|.*.*.*.*.*b)", LONG).count());
        checks.found("0-40", "(?:a|a)*b|a*c", Checks.times("a", 39) + "c");
        checks.found("0-80", "(?:a?a?)*b|a*", LONG);
        checks.found("0-80 79-80", "(?:(?:a|a)*)*b|(a)*", LONG);
    }
}
