import java.util.NoSuchElementException;

/** Promises 10 to 12: count, replace, piece. */
final class CountTest {
    private static final Checks checks = new Checks("CountTest");

    public static void main(String[] args) {
        countGoesOnBehindTheOneBefore();
        countForgets();
        replaceWritesTheTemplate();
        replaceKeepsEightyCharacters();
        replaceRefusesWrongTemplates();
        replaceForgets();
        piecesStandBetweenThePlaces();
        pieceRefusesWhatIsNotThere();
        checks.end();
    }

    private static void counted(int due, String pattern, String text) {
        checks.equal(pattern + " in " + text, due, Checks.machine(pattern, text).count());
    }

    private static void replaced(String due, int places, String pattern, String text, String template) {
        PatternMachine x = Checks.machine(pattern, text);
        String what = pattern + " in " + text + " to " + template;
        checks.equal("places of " + what, places, Checks.replace(x, template));
        checks.equal(what, due, Checks.text(x));
        checks.equal("line behind " + what, 0, x.look(1));
        checks.equal("length behind " + what, due.length(), x.look(2));
    }

    private static void countGoesOnBehindTheOneBefore() {
        counted(0, "a", "");
        counted(1, "", "");
        counted(4, "", "abc");
        counted(2, "aa", "aaaaa");
        counted(3, "a", "banana");
        counted(4, "x*", "axb");
        counted(3, "a*", "baa");
        counted(1, "^a", "aaa");
        counted(1, "$", "aaa");
        counted(2, "\\b", " ab ");
        counted(81, "", Checks.times("a", 80));
        counted(80, "a", Checks.times("a", 80));
        counted(2, "a*", Checks.times("a", 80));
        counted(81, "a*?", Checks.times("a", 80));
        counted(2, "\\d+", "the cat The dog; 12-345");
    }

    private static void countForgets() {
        PatternMachine x = Checks.machine("a", "a");
        x.find(0);
        x.count();
        checks.equal("found", 0, x.look(3));
        checks.fails("group", IllegalStateException.class, () -> x.group(0, false));
        checks.equal("text stays", "a", Checks.text(x));
        checks.equal("again", 1, x.count());
    }

    private static void replaceWritesTheTemplate() {
        replaced("<the$t> cat <The$T> dog", 2, "\\b([tT])he\\b", "the cat The dog", "<$0$$$1>");
        replaced("b<>n<>n<>", 3, "a", "banana", "<>");
        replaced("bnn", 3, "a", "banana", "");
        replaced("-a--b-", 4, "x*", "axb", "-");
        replaced("[a,][,b]c", 2, "(a)|(b)", "abc", "[$1,$2]");
        replaced("4321", 1, "(.)(.)(.)(.)", "1234", "$4$3$2$1");
        replaced("$0a", 1, "b", "ba", "$$0");
        replaced("(.)\\n1", 1, "2", "21", "(.)\\n");
        replaced("b1b1", 2, "(a)", "aa", "b1");
        replaced("aaaa", 2, "a", "aa", "$0$0");
    }

    private static void replaceKeepsEightyCharacters() {
        String text = Checks.times("a", 80);
        replaced(Checks.times("bc", 40), 80, "a", text, "bc");
        replaced(text.substring(1) + "x", 1, "a$", text, "xyz");
        replaced("xyz" + text.substring(3), 1, "^a", text, "xyz");
        replaced(Checks.times("a-", 40).substring(1) + "a", 81, "", text, "-");
        replaced("", 1, "a*b", text.substring(1) + "b", "");
    }

    private static void replaceRefusesWrongTemplates() {
        String[] wrong = {"$", "$2", "$5", "$9", "$a", "$ ", "$\n", "x$", "$$$", "$1$", "$0$3", "$-"};
        for (String template : wrong) {
            PatternMachine x = Checks.machine("(a)", "bab");
            x.find(0);
            Checks.type(x, template);
            checks.fails("replace " + template, IllegalArgumentException.class, () -> x.replace());
            checks.equal("line behind " + template, template.length(), x.look(1));
            checks.equal("text behind " + template, "bab", Checks.text(x));
            checks.equal("found behind " + template, "1-2 1-2", Checks.caught(x));
        }
        PatternMachine nowhere = Checks.machine("(x)", "bab");
        Checks.type(nowhere, "$2");
        checks.fails("also if it is not found", IllegalArgumentException.class, () -> nowhere.replace());
        PatternMachine without = new PatternMachine();
        Checks.addText(without, "ab");
        Checks.type(without, "$");
        checks.fails("no pattern comes first", IllegalStateException.class, () -> without.replace());
        checks.equal("line", 1, without.look(1));
        checks.equal("text", "ab", Checks.text(without));
    }

    private static void replaceForgets() {
        PatternMachine x = Checks.machine("a", "ab");
        x.find(0);
        checks.equal("places", 1, Checks.replace(x, "a"));
        checks.equal("found", 0, x.look(3));
        checks.equal("pattern stays", "0-1", Checks.find(x, 0));
        PatternMachine y = Checks.machine("x", "ab");
        checks.equal("no places", 0, Checks.replace(y, "$0$0"));
        checks.equal("line", 0, y.look(1));
        checks.equal("text", "ab", Checks.text(y));
    }

    private static void pieces(String pattern, String text, String... due) {
        PatternMachine x = Checks.machine(pattern, text);
        for (int n = 0; n < due.length; n++) {
            checks.equal("piece " + n + " of " + text + " by " + pattern, due[n], Checks.piece(x, n));
        }
        checks.fails("piece " + due.length + " of " + text + " by " + pattern, NoSuchElementException.class,
                () -> x.piece(due.length, -1));
    }

    private static void piecesStandBetweenThePlaces() {
        pieces("-", "ab-c--d", "ab", "c", "", "d");
        pieces("-", "-a-", "", "a", "");
        pieces("-", "abc", "abc");
        pieces("-", "", "");
        pieces("", "", "", "");
        pieces("", "ab", "", "a", "b", "");
        pieces("x*", "axb", "", "a", "", "b", "");
        pieces("\\d+", "the cat; 12-345", "the cat; ", "-", "");
        PatternMachine x = Checks.machine("", Checks.times("a", 80));
        checks.equal("the last piece", 0, x.piece(81, -1));
        checks.equal("the one before", (int) 'a', x.piece(80, 0));
    }

    private static void pieceRefusesWhatIsNotThere() {
        PatternMachine x = Checks.machine("-", "ab-c");
        int[] noPieces = {-1, 3, 80, 81, 82, Integer.MIN_VALUE, Integer.MAX_VALUE};
        for (int n : noPieces) {
            x.find(0);
            checks.fails("piece " + n, NoSuchElementException.class, () -> x.piece(n, 99));
            checks.equal("found behind piece " + n, 0, x.look(3));
        }
        int[] noCharacters = {-2, 2, 3, Integer.MIN_VALUE, Integer.MAX_VALUE};
        for (int k : noCharacters) {
            x.find(0);
            checks.fails("character " + k, IndexOutOfBoundsException.class, () -> x.piece(0, k));
            checks.equal("found behind character " + k, 0, x.look(3));
        }
        checks.equal("first", (int) 'a', x.piece(0, 0));
        checks.equal("last", (int) 'b', x.piece(0, 1));
        x.find(0);
        checks.equal("length", 2, x.piece(0, -1));
        checks.equal("found", 0, x.look(3));
        checks.equal("text stays", "ab-c", Checks.text(x));
    }
}
