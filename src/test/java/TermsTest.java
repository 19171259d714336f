/** The section "Terms", as far as it says which lines are PATTERNs: sentence by sentence, each limit from both sides. */
final class TermsTest {
    private static final Checks checks = new Checks("TermsTest");
    private static final String ESCAPABLE_SIGNS = "!\"#$%&'()*+,-./:;<=>?@[\\]^_`{|}~";

    public static void main(String[] args) {
        chainsWithBarsBetween();
        chainsWithoutPieces();
        oneCountBehindAnAtom();
        oneQuestionMarkBehindACount();
        noCountBehindAnAssertion();
        countsOfOneDigit();
        countsWithLimits();
        countsThatAreMalformed();
        groupsAreAtMostFour();
        bracketsWithoutNumber();
        bracketsStandInPairs();
        escapes();
        plainCharacters();
        setsHaveItemsAndAnEnd();
        escapesInSets();
        plainCharactersInSets();
        rangesGoUpwards();
        hyphensInSets();
        bracketsInsideOneAnother();
        linesOfFortyCharacters();
        checks.end();
    }

    private static boolean isIn(String signs, char c) {
        return signs.indexOf(c) >= 0;
    }

    private static void chainsWithBarsBetween() {
        checks.about("PATTERN: CHAINs with | between");
        checks.size(1, "a");
        checks.size(4, "a|b");
        checks.size(7, "a|b|c");
        checks.size(3, "a|");
        checks.size(3, "|a");
        checks.size(2, "|");
        checks.size(4, "||");
        checks.size(80, Checks.times("|", 40));
    }

    private static void chainsWithoutPieces() {
        checks.about("CHAIN: PIECEs, perhaps none");
        checks.size(0, "");
        checks.size(2, "()");
        checks.size(4, "(|)");
        checks.size(0, "(?:)");
        checks.size(2, "(?:|)");
        checks.size(11, "(a||)|()");
    }

    private static void oneCountBehindAnAtom() {
        checks.about("PIECE: an ATOM, perhaps a COUNT");
        String[] counts = {"*", "+", "?", "{2}", "{2,}", "{2,3}"};
        int[] sizes = {3, 4, 2, 2, 5, 4};
        for (int i = 0; i < counts.length; i++) {
            for (String atom : new String[] {"a", "[a]", ".", "\\d", "(?:a)"}) {
                checks.size(sizes[i], atom + counts[i]);
            }
            checks.noPattern(counts[i], "|" + counts[i], "a|" + counts[i], "(" + counts[i] + ")", "(?:" + counts[i] + ")");
            for (String second : counts) {
                if (!second.equals("?")) {
                    checks.noPattern("a" + counts[i] + second, "(a)" + counts[i] + second, "a" + counts[i] + "?" + second);
                }
            }
        }
    }

    private static void oneQuestionMarkBehindACount() {
        checks.about("perhaps ? behind it (LAZY)");
        String[] counts = {"*", "+", "?", "{2}", "{2,}", "{2,3}"};
        int[] sizes = {3, 4, 2, 2, 5, 4};
        for (int i = 0; i < counts.length; i++) {
            checks.size(sizes[i], "a" + counts[i] + "?");
            checks.noPattern("a" + counts[i] + "??");
        }
    }

    private static void noCountBehindAnAssertion() {
        checks.about("PIECE: .. or an ASSERTION. ASSERTION: ^ $ \\b \\B");
        for (String assertion : new String[] {"^", "$", "\\b", "\\B"}) {
            checks.size(1, assertion);
            checks.size(2, assertion + assertion);
            for (String count : new String[] {"*", "+", "?", "{1}", "{1,}", "{1,2}", "*?"}) {
                checks.noPattern(assertion + count);
            }
            checks.size(3, "(?:" + assertion + ")*");
        }
    }

    private static void countsOfOneDigit() {
        checks.about("{m} {m,} .. n (or m) at most 5");
        for (int m = 0; m <= 5; m++) {
            checks.size(m, "a{" + m + "}");
            checks.size(m + 3, "a{" + m + ",}");
        }
        for (int m = 6; m <= 9; m++) {
            checks.noPattern("a{" + m + "}", "a{" + m + ",}");
        }
    }

    private static void countsWithLimits() {
        checks.about("{m,n} .. m at most n, n (or m) at most 5");
        for (int m = 0; m <= 9; m++) {
            for (int n = 0; n <= 9; n++) {
                String line = "a{" + m + "," + n + "}";
                if (m <= n && n <= 5) {
                    checks.size(m + 2 * (n - m), line);
                } else {
                    checks.noPattern(line);
                }
            }
        }
    }

    private static void countsThatAreMalformed() {
        checks.about("COUNT: .. with single digits");
        checks.noPattern("a{10}", "a{12}", "a{01}", "a{00}", "a{10,}", "a{01,}", "a{1,10}", "a{1,05}", "a{1,22}");
        checks.noPattern("a{}", "a{,}", "a{,2}", "a{/}", "a{:}", "a{/,}", "a{:,}", "a{0,/}", "a{0,:}", "a{-1}", "a{+1}");
        checks.noPattern("a{x}", "a{1,x}", "a{x,2}", "a{ 1}", "a{1 }", "a{1, 2}", "a{1 ,2}", "a{1;2}", "a{1-2}", "a{\n}");
        checks.noPattern("a{", "a{1", "a{1,", "a{1,2", "a{1,2,", "a{1,2,3}", "a{1,,2}", "a{1)", "a{1]", "(a{1)}");
        checks.size(2, "a}");
        checks.size(4, "a\\{1}");
        checks.size(4, "a1,}");
    }

    private static void groupsAreAtMostFour() {
        checks.about("( PATTERN ) a GROUP, .. at most 4");
        checks.size(9, "(a)(b)(c)");
        checks.size(12, "(a)(b)(c)(d)");
        checks.noPattern("(a)(b)(c)(d)(e)", "(a)(b)(c)(d)()", "(a)|(b)|(c)|(d)|(e)", "(((((a)))))", "((a)(b)(c)(d))");
        checks.size(9, "((((a))))");
        checks.size(12, "((a)(b)(c))a");
        checks.size(13, "(a)(b)(c)(d)(?:e)");
        checks.size(4 + 4 * 2, "(?:(a)(b)(c)(d))");
        checks.noPattern("(?:(a)(b)(c)(d))(e)", "(a){0}(b){0}(c){0}(d){0}(e){0}");
        checks.size(13, "(a)(b)(c)(d)\\(");
        checks.size(13, "(a)(b)(c)(d)[(]");
        for (int groups = 0; groups <= 4; groups++) {
            PatternMachine x = Checks.machine(Checks.times("(a)", groups) + "(?:b)", "");
            checks.equal("groups", groups, x.look(0));
        }
    }

    private static void bracketsWithoutNumber() {
        checks.about("(?: PATTERN )");
        checks.size(1, "(?:a)");
        checks.size(4, "(?:a|b)");
        checks.size(5, "(?:a)(?:b)(?:c)(?:d)(?:e)");
        checks.noPattern("(?", "(?)", "(?:", "(?a)", "(?a", "(?=a)", "(?!a)", "(?<a)", "(??:a)", "(? :a)", "(?|a)", "(?(a))");
        checks.size(4, "(:a)");
        checks.size(6, "(a?:b)");
    }

    private static void bracketsStandInPairs() {
        checks.about("( PATTERN )");
        checks.noPattern("(", ")", "(a", "a)", "(a))", "((a)", "(a|", "(a|b", "|)", ")(", "a|b)", "(?:a", "(?:(a)", "(?:a))");
        checks.noPattern("([)]", "(\\)", "[(])", "(a]", "((((", Checks.times("(", 40), Checks.times(")", 40));
        checks.size(3, "([)])");
        checks.size(3, "(\\))");
        checks.size(6, "(a(b))");
    }

    private static void escapes() {
        checks.about("\\ and d w s D W S; \\ and n (10); \\ and a sign 33 .. 126 that is no letter or digit");
        for (char c : Checks.ALL.toCharArray()) {
            if (isIn("dwsDWSnbB" + ESCAPABLE_SIGNS, c)) {
                checks.size(1, "\\" + c);
            } else {
                checks.noPattern("\\" + c, "a\\" + c + "a");
            }
        }
        checks.noPattern("\\", "a\\", "\\\\\\", "(\\", "a|\\");
        checks.size(2, "\\\\\\\\");
        checks.size(2, "\\dd");
    }

    private static void plainCharacters() {
        checks.about("any other character but | ( ) [ * + ? { . ^ $ \\ : itself");
        for (char c : Checks.ALL.toCharArray()) {
            if (isIn("()[*+?{\\", c)) {
                checks.noPattern(String.valueOf(c));
            } else {
                checks.size(c == '|' ? 2 : 1, String.valueOf(c));
            }
            if (!isIn("|()[*+?{.^$\\", c)) {
                checks.takes(String.valueOf(c), String.valueOf(c), 0);
            }
        }
    }

    private static void setsHaveItemsAndAnEnd() {
        checks.about("SET: [ perhaps ^ (all others), then ITEMs, at least one, ]");
        checks.size(1, "[a]");
        checks.size(1, "[^a]");
        checks.size(1, "[^^]");
        checks.size(1, "[" + Checks.signs('A', 'Z') + "]");
        checks.size(1, "[" + Checks.times("a", 38) + "]");
        checks.noPattern("[]", "[^]", "[]]", "[]a]", "[^]a]", "[", "[^", "[a", "[^a", "[a-", "[a-b", "[^a-b", "(]", "([)");
        checks.noPattern("[" + Checks.times("a", 39));
        checks.size(2, "[a]]");
        checks.size(1, "]");
    }

    private static void escapesInSets() {
        checks.about("ITEM: \\ and d w s n or such a sign");
        for (char c : Checks.ALL.toCharArray()) {
            if (isIn("dwsn" + ESCAPABLE_SIGNS, c)) {
                checks.size(1, "[\\" + c + "]");
                checks.size(1, "[a\\" + c + "b]");
            } else {
                checks.noPattern("[\\" + c + "]", "[^\\" + c + "]", "[a\\" + c + "]");
            }
        }
        checks.noPattern("[\\", "[a\\", "[\\]", "[^\\]", "[a\\]", "[\\\\\\]");
    }

    private static void plainCharactersInSets() {
        checks.about("ITEM: .. a character but ] and \\");
        for (char c : Checks.ALL.toCharArray()) {
            if (isIn("]\\^", c)) {
                checks.noPattern("[" + c + "]");
            } else {
                checks.takes(String.valueOf(c), "[" + c + "]", 0);
            }
        }
        checks.takes("^a", "[a^]", 0);
    }

    private static void rangesGoUpwards() {
        checks.about("two characters .. with - between are all from the first to the second (not below it)");
        String ends = Checks.ALL.replaceAll("[\\]\\\\^]", "");
        for (char first : ends.toCharArray()) {
            for (char second : ends.toCharArray()) {
                String line = "[" + first + "-" + second + "]";
                if (first <= second) {
                    checks.size(1, line);
                } else {
                    checks.noPattern(line);
                }
            }
        }
        for (char c : ends.toCharArray()) {
            checks.takes(String.valueOf(c), "[" + c + "-" + c + "]", 0);
            checks.takes(Checks.ALL.substring(0, Checks.ALL.indexOf(c) + 1), "[\n-" + c + "]", 0);
            checks.takes(Checks.ALL.substring(Checks.ALL.indexOf(c)), "[" + c + "-~]", 0);
        }
        checks.noPattern("[b-a]", "[^b-a]", "[xb-a]", "[a-cb-a]", "[a- ]", "[ -\n]");
    }

    private static void hyphensInSets() {
        checks.about("a - that stands first or last is itself");
        checks.takes("-", "[-]", 0);
        checks.takes("-a", "[-a]", 0);
        checks.takes("-a", "[a-]", 0);
        checks.takes("-abc", "[-a-c]", 0);
        checks.takes("-abc", "[a-c-]", 0);
        checks.takes("-", "[--]", 0);
        checks.takes(Checks.ALL.replace("-", ""), "[^-]", 0);
        checks.takes(Checks.ALL.replaceAll("[-a]", ""), "[^-a]", 0);
        checks.takes(Checks.ALL.replaceAll("[-a]", ""), "[^a-]", 0);
        checks.about("two characters, neither an escape, with - between");
        checks.takes("-0123456789", "[\\d-]", 0);
        checks.takes("-0123456789", "[-\\d]", 0);
        checks.takes("-0123456789a", "[\\d-a]", 0);
        checks.takes("-0123456789a", "[a-\\d]", 0);
        checks.takes("-ac", "[a\\-c]", 0);
        checks.takes("!#-", "[\\!-#]", 0);
        checks.takes("!#-", "[!-\\#]", 0);
    }

    private static void bracketsInsideOneAnother() {
        checks.about("At most 8 GROUPs and (?: lie inside one another");
        checks.size(1, Checks.times("(?:", 8) + "a" + Checks.times(")", 8));
        checks.size(9, Checks.times("(", 4) + Checks.times("(?:", 4) + "a" + Checks.times(")", 8));
        checks.size(9, Checks.times("(?:", 4) + Checks.times("(", 4) + "a" + Checks.times(")", 8));
        checks.noPattern(Checks.times("(", 4) + Checks.times("(?:", 5) + "a" + Checks.times(")", 9));
        checks.noPattern(Checks.times("(?:", 5) + Checks.times("(", 4) + "a" + Checks.times(")", 9));
        checks.noPattern(Checks.times("(?:", 6) + Checks.times("(", 3) + "a" + Checks.times(")", 9));
        checks.noPattern(Checks.times("(?:", 8) + "(a)" + Checks.times(")", 8));
        checks.size(0, Checks.times("(?:)", 10));
        checks.size(2, Checks.times("(?:", 7) + "(?:)" + "()" + Checks.times(")", 7));
    }

    private static void linesOfFortyCharacters() {
        checks.about("THE LINE is a text of at most 40 characters");
        checks.size(40, Checks.times("a", 40));
        checks.size(40, "()()()()" + Checks.times("a", 32));
        checks.size(72, "()()()()" + Checks.times("|", 32));
        checks.size(60, Checks.times("a*", 20));
        checks.size(80, Checks.times("a+", 20));
        checks.size(40, Checks.times("^", 40));
        checks.size(20, Checks.times("\\n", 20));
        checks.size(50, Checks.times("a{5}", 10));
        checks.size(16, "(((()*)*)*)*" + Checks.times("(?:)", 7));
        checks.noPattern(Checks.times("a", 39) + "(", Checks.times("a", 39) + "\\", "a" + Checks.times("*", 39));
    }
}
