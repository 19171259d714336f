/** Promises 7 to 9: find, matches, group; with what atoms, sets, assertions, flags, counts and groups mean. */
final class FindTest {
    private static final Checks checks = new Checks("FindTest");

    public static void main(String[] args) {
        findGoesFromAPlaceOn();
        findRefusesPlacesOutside();
        matchesGoesFromTheBeginningToTheEnd();
        matchesPrefersTheFirstSuchWay();
        groupRefusesWhatIsNotThere();
        atoms();
        sets();
        assertions();
        letterCase();
        otherFlags();
        orderOfPreference();
        countsInOrder();
        emptyTurns();
        groupsCatch();
        hardPatternsEnd();
        checks.end();
    }

    private static void found(String due, String pattern, String text) {
        checks.equal(pattern + " in " + text, due, Checks.find(pattern, 0, text));
    }

    private static void found(String due, String pattern, int flags, String text) {
        checks.equal(pattern + " with " + flags + " in " + text, due, Checks.find(pattern, flags, text));
    }

    private static void matched(String due, String pattern, String text) {
        PatternMachine x = Checks.machine(pattern, text);
        boolean matches = x.matches();
        checks.equal(pattern + " matches " + text, due, Checks.caught(x));
        checks.equal(pattern + " matches " + text, !due.equals("none"), matches);
    }

    /** Which of all characters a one-character pattern takes, in the order of their codes. */
    private static void takes(String due, String pattern, int flags) {
        StringBuilder taken = new StringBuilder();
        for (char c = 10; c <= 126; c = c == 10 ? 32 : (char) (c + 1)) {
            PatternMachine x = Checks.machine(pattern, flags, String.valueOf(c));
            if (x.matches()) {
                taken.append(c);
            }
        }
        checks.equal(pattern + " with " + flags + " takes", due, taken.toString());
    }

    private static String signs(int first, int last) {
        StringBuilder signs = new StringBuilder();
        for (int c = first; c <= last; c++) {
            signs.append((char) c);
        }
        return signs.toString();
    }

    private static void findGoesFromAPlaceOn() {
        PatternMachine x = Checks.machine("a(b)?", "xabxa");
        checks.equal("from 0", "1-3 2-3", Checks.find(x, 0));
        checks.equal("from 1", "1-3 2-3", Checks.find(x, 1));
        checks.equal("from 2", "4-5 -", Checks.find(x, 2));
        checks.equal("at the end", false, x.find(5));
        checks.equal("forgotten", 0, x.look(3));
        checks.fails("group", IllegalStateException.class, () -> x.group(0, false));
        checks.equal("found", true, x.find(4));
        PatternMachine empty = Checks.machine("", "");
        checks.equal("nothing in nothing", "0-0", Checks.find(empty, 0));
        checks.equal("nothing at the end", "3-3", Checks.find(Checks.machine("", "abc"), 3));
        PatternMachine context = Checks.machine("^b|\\Bb|\\bb", "ab");
        checks.equal("what stands before the place is seen", "1-2", Checks.find(context, 1));
        checks.equal("^ is not at the place", "none", Checks.find(Checks.machine("^b", "ab"), 1));
        checks.equal("\\b is not at the place", "none", Checks.find(Checks.machine("\\bb", "ab"), 1));
    }

    private static void findRefusesPlacesOutside() {
        PatternMachine x = Checks.machine("a", "aaa");
        x.find(1);
        int[] outside = {-1, 4, 80, 81, Integer.MIN_VALUE, Integer.MAX_VALUE};
        for (int from : outside) {
            checks.fails("find " + from, IndexOutOfBoundsException.class, () -> x.find(from));
        }
        checks.equal("found stays", "1-2", Checks.caught(x));
        PatternMachine full = Checks.machine("$", Checks.times("a", 80));
        checks.equal("the last place", "80-80", Checks.find(full, 80));
        checks.fails("find 81", IndexOutOfBoundsException.class, () -> full.find(81));
    }

    private static void matchesGoesFromTheBeginningToTheEnd() {
        matched("0-3", "abc", "abc");
        matched("none", "ab", "abc");
        matched("none", "bc", "abc");
        matched("0-0", "", "");
        matched("none", "", "a");
        matched("0-80", ".*", Checks.times("a", 80));
        PatternMachine x = Checks.machine("a", "ab");
        x.find(0);
        checks.equal("matches", false, x.matches());
        checks.equal("forgotten", 0, x.look(3));
    }

    private static void matchesPrefersTheFirstSuchWay() {
        matched("0-2 0-2", "(a|ab)", "ab");
        matched("0-4 0-1 1-4 4-4", "(a|ab)(c|bcd)(d*)", "abcd");
        matched("0-3 0-0 0-3", "(a*?)(a*)", "aaa");
        matched("0-3", "a*?", "aaa");
        matched("0-2 0-2 - 0-2", "((a)|(ab))", "ab");
    }

    private static void groupRefusesWhatIsNotThere() {
        PatternMachine x = Checks.machine("(a)|(b)", "xb");
        checks.fails("nothing found yet", IllegalStateException.class, () -> x.group(9, false));
        x.find(0);
        checks.equal("begin of the whole", 1, x.group(0, false));
        checks.equal("end of the whole", 2, x.group(0, true));
        checks.equal("begin of one that is not there", -1, x.group(1, false));
        checks.equal("end of one that is not there", -1, x.group(1, true));
        checks.equal("begin", 1, x.group(2, false));
        checks.equal("end", 2, x.group(2, true));
        int[] others = {-1, 3, 4, 5, Integer.MIN_VALUE, Integer.MAX_VALUE};
        for (int k : others) {
            checks.fails("group " + k, IndexOutOfBoundsException.class, () -> x.group(k, true));
        }
        checks.equal("found stays", "1-2 - 1-2", Checks.caught(x));
        x.count();
        checks.fails("nothing found", IllegalStateException.class, () -> x.group(0, false));
    }

    private static void atoms() {
        String digits = signs('0', '9');
        String words = digits + signs('A', 'Z') + "_" + signs('a', 'z');
        String all = "\n" + signs(32, 126);
        takes("a", "a", 0);
        takes(digits, "\\d", 0);
        takes(words, "\\w", 0);
        takes("\n ", "\\s", 0);
        takes(all.replaceAll("[0-9]", ""), "\\D", 0);
        takes(all.replaceAll("[0-9A-Za-z_]", ""), "\\W", 0);
        takes(signs(33, 126), "\\S", 0);
        takes("\n", "\\n", 0);
        takes("\n", "\n", 0);
        takes(signs(32, 126), ".", 0);
        takes(all, ".", 4);
        takes(" ", " ", 0);
        for (char c : "!\"#$%&'()*+,-./:;<=>?@[\\]^_`{|}~".toCharArray()) {
            takes(String.valueOf(c), "\\" + c, 0);
        }
        for (char c : "!\"#%&',-/:;<=>@]_`}~".toCharArray()) {
            takes(String.valueOf(c), String.valueOf(c), 0);
        }
    }

    private static void sets() {
        String all = "\n" + signs(32, 126);
        takes("abc", "[cab]", 0);
        takes("cdef", "[c-f]", 0);
        takes("c", "[c-c]", 0);
        takes(all.replaceAll("[c-f]", ""), "[^c-f]", 0);
        takes("-a", "[-a]", 0);
        takes("-a", "[a-]", 0);
        takes("-", "[-]", 0);
        takes("-", "[--]", 0);
        takes("-./", "[--/]", 0);
        takes("+,-", "[+--]", 0);
        takes(all.replaceAll("[-a]", ""), "[^-a]", 0);
        takes(all.replaceAll("[a^]", ""), "[^a^]", 0);
        takes("^a", "[a^]", 0);
        takes("$()*+.?[{|", "[[({)*+?.|$]", 0);
        takes("\n ", "[\\s]", 0);
        takes("\n0123456789", "[\\d\\n]", 0);
        takes("-\\]", "[\\]\\-\\\\]", 0);
        takes("-0123456789", "[\\d-]", 0);
        takes("\n ", "[ \n]", 0);
        takes("-0123456789a", "[\\d-a]", 0);
        takes("-0123456789a", "[a-\\d]", 0);
        takes("-abce", "[a-c-e]", 0);
    }

    private static void assertions() {
        found("0-1", "^a", "a\na");
        found("2-3", "^a", 2, "b\na");
        found("none", "^a", 0, "b\na");
        found("2-3", "a$", "a\na");
        found("0-1", "a$", 2, "a\na");
        found("none", "a$", "a\n");
        found("0-1", "a$", 2, "a\n");
        found("2-2", "^$", 2, "a\n");
        found("none", "^$", 0, "a\n");
        found("0-0", "^$", 0, "");
        found("2-3", "\\ba", "_ a");
        found("1-2", "a\\b", "aa a");
        found("0-0", "\\b", "a");
        found("1-1", "\\b", " a ");
        found("none", "\\b", "");
        found("none", "\\b", " ;");
        found("0-0", "\\B", "");
        found("0-0", "\\B", " a");
        found("1-1", "\\B", "ab");
        found("none", "\\B", "a");
    }

    private static void letterCase() {
        takes("Aa", "a", 1);
        takes("Aa", "A", 1);
        takes("ABCabc", "[a-c]", 1);
        takes("ABCabc", "[A-C]", 1);
        takes("1_", "[1_]", 1);
        takes("@ABab", "[@-B]", 1);
        takes("AB`ab", "[`-b]", 1);
        String all = "\n" + signs(32, 126);
        takes(all.replaceAll("[aA]", ""), "[^a]", 1);
        takes(all.replaceAll("[a]", ""), "[^a]", 0);
        takes(all.replaceAll("[A-Za-z0-9_]", ""), "\\W", 1);
        takes("[", "\\[", 1);
        takes("{", "\\{", 1);
    }

    private static void otherFlags() {
        found("none", "a.b", 3, "a\nb");
        found("0-3", "a.b", 4, "a\nb");
        found("none", "A", 6, "a");
    }

    private static void orderOfPreference() {
        found("0-1", "a|ab", "ab");
        found("0-2", "ab|a", "ab");
        found("0-0", "|a", "a");
        found("1-2", "b", "ab");
        found("0-2 0-1 1-2", "(a|ab)(b|)", "ab");
        found("0-1 0-0", "(|a)a", "a");
        found("0-1", "a(?:b*c)?", "abbd");
        found("0-4", "a(?:b*c)?", "abbc");
        found("1-2", "aab|a", "caac");
    }

    private static void countsInOrder() {
        found("0-3", "a*", "aaa");
        found("0-0", "a*?", "aaa");
        found("0-3", "a+", "aaa");
        found("0-1", "a+?", "aaa");
        found("0-1", "a?", "aaa");
        found("0-0", "a??", "aaa");
        found("0-2", "a{2}", "aaa");
        found("0-2", "a{2}?", "aaa");
        found("0-3", "a{2,}", "aaa");
        found("0-2", "a{2,}?", "aaa");
        found("0-3", "a{1,3}", "aaaa");
        found("0-1", "a{1,3}?", "aaaa");
        found("none", "a{4}", "aaa");
        found("0-0", "a{0}", "aaa");
        found("0-5", "a{5}", "aaaaaa");
        found("0-4", "a{1,3}?b", "aaab");
        found("1-5", "a{1,3}?b", "aaaab");
    }

    private static void emptyTurns() {
        found("0-0 -", "(a*)*", "b");
        found("0-0 0-0", "(a*)+", "b");
        found("0-0 0-0", "(a*)?", "b");
        found("0-0 -", "(a*)??", "b");
        found("0-2 0-2", "(a*)*", "aab");
        found("0-2 0-2", "(a*)+", "aab");
        found("0-1 0-1", "(a|b*)*", "a");
        found("0-0 -", "(|a)*", "b");
        found("0-2 1-2", "(|a)*", "aa");
        found("0-2 1-2", "(|a)+", "aa");
        found("0-0 0-0", "(|a)+?", "aa");
        found("0-2 2-2", "(a|){3}", "aa");
        found("0-0 -", "()*", "a");
        found("0-0 0-0", "(){2,}", "a");
        found("0-3", "(?:b*?)*", "bbb");
        found("0-4 3-4", "(.*?)*", "aaba");
        found("0-2 -", "(?:()*a)+", "aa");
        found("0-1 0-1 -", "(|()*c)+", "c");
    }

    private static void groupsCatch() {
        found("0-4 0-2 0-1 3-4", "((a).)(?:.)(b)", "axxb");
        found("0-3 2-3", "(.)*", "abc");
        found("0-2 1-2 0-1", "((a)|b)*", "ab");
        found("0-3 - 2-3", "(x)?(?:a|(b))*", "aab");
        found("0-1 - -", "(?:(b)|a|(c)){1}", "a");
        found("0-1 - 0-1", "(a){0}(b)", "b");
        found("0-2 1-2", "(a){2}", "aa");
        found("1-2 1-2", "(b)", "ab");
        found("0-4 0-4 0-4 0-4 0-4", "((((a*))))", "aaaa");
    }

    private static void hardPatternsEnd() {
        String text = Checks.times("a", 80);
        found("none", "(a*)*b", text);
        found("none", "(?:a|a)*b", text);
        found("none", "(?:(?:(?:(?:a*)*)*)*)*b", text);
        found("none", "(?:(?:(?:(?:(?:(?:(a*)*)*)*)*)*)*)*b", text);
        found("0-80 0-80", "((?:a?){5}a*)*", text);
        matched("none", "(?:a{0,5}){5}", text);
        PatternMachine x = Checks.machine("(?:a|.*.*.*.*.*b)", text);
        checks.equal("count", 80, x.count());
    }
}
