import java.util.NoSuchElementException;

/** Promise 12: piece. */
final class PieceTest {
    private static final Checks checks = new Checks("PieceTest");
    private static final String FULL = Checks.times("a", 80);

    public static void main(String[] args) {
        piecesStandBetweenThePlaces();
        thePieceBehindTheLastPlace();
        charactersOfAPiece();
        pieceForgets();
        pieceLeavesLineTextAndPattern();
        pieceNeedsAPattern();
        pieceRefusesOtherNumbers();
        noPieceComesBeforeNoCharacter();
        pieceRefusesOtherCharacters();
        emptyPiecesHaveNoCharacter();
        pieceForgetsAlsoWhenThrown();
        checks.end();
    }

    private static void pieces(String pattern, String text, String... due) {
        PatternMachine x = Checks.machine(pattern, text);
        for (int n = 0; n < due.length; n++) {
            checks.equal("piece " + n + " of " + text + " by " + pattern, due[n], Checks.piece(x, n));
        }
        checks.fails("piece " + due.length + " of " + text + " by " + pattern, NoSuchElementException.class,
                () -> x.piece(due.length, -1));
        checks.fails("piece -1 of " + text + " by " + pattern, NoSuchElementException.class, () -> x.piece(-1, -1));
    }

    private static void piecesStandBetweenThePlaces() {
        checks.about("what stands before the n-th place that count() counts, behind the one before it");
        pieces("-", "ab-c--d", "ab", "c", "", "d");
        pieces("-", "-a-", "", "a", "");
        pieces("-", "-", "", "");
        pieces("", "", "", "");
        pieces("", "ab", "", "a", "b", "");
        pieces("x*", "axb", "", "a", "", "b", "");
        pieces("a", "banana", "b", "n", "n", "");
        pieces("\\d+", "the cat; 12-345", "the cat; ", "-", "");
    }

    private static void thePieceBehindTheLastPlace() {
        checks.about("n = their number: behind the last one");
        pieces("-", "", "");
        pieces("-", "abc", "abc");
        pieces("-", "-abc", "", "abc");
        pieces("-", FULL, FULL);
        pieces("$", FULL, FULL, "");
        pieces("^", FULL, "", FULL);
        PatternMachine x = Checks.machine("", FULL);
        checks.equal("the 81st of 82", 1, x.piece(80, -1));
        checks.equal("the last of 82", 0, x.piece(81, -1));
        checks.fails("one more", NoSuchElementException.class, () -> x.piece(82, -1));
    }

    private static void charactersOfAPiece() {
        checks.about("Character k ..: its length for k = -1");
        PatternMachine x = Checks.machine("-", "ab-~ \n-c");
        checks.equal("length", 2, x.piece(0, -1));
        checks.equal("first", (int) 'a', x.piece(0, 0));
        checks.equal("last", (int) 'b', x.piece(0, 1));
        checks.equal("length", 3, x.piece(1, -1));
        checks.equal("first", 126, x.piece(1, 0));
        checks.equal("middle", 32, x.piece(1, 1));
        checks.equal("last", 10, x.piece(1, 2));
        checks.equal("length", 1, x.piece(2, -1));
        checks.equal("only", (int) 'c', x.piece(2, 0));
        PatternMachine full = Checks.machine("-", Checks.times("a", 79) + "b");
        checks.equal("length of all", 80, full.piece(0, -1));
        checks.equal("last of all", (int) 'b', full.piece(0, 79));
    }

    private static void pieceForgets() {
        checks.about("piece: Nothing has been found then");
        PatternMachine x = Checks.machine("-", "a-b");
        x.find(0);
        x.piece(0, -1);
        checks.equal("found behind a length", 0, x.look(3));
        checks.fails("group", IllegalStateException.class, () -> x.group(0, false));
        x.find(0);
        x.piece(1, 0);
        checks.equal("found behind a character", 0, x.look(3));
    }

    private static void pieceLeavesLineTextAndPattern() {
        checks.about("piece: Character k of what stands before the n-th place");
        PatternMachine x = Checks.machine("(-)", "a-b");
        Checks.type(x, "line");
        x.piece(1, 0);
        checks.equal("text", "a-b", Checks.text(x));
        checks.equal("pattern", "1-2 1-2", Checks.find(x, 0));
        checks.equal("line", "line", Checks.lineOf(x));
    }

    private static void pieceNeedsAPattern() {
        checks.about("piece: IllegalStateException: there is no pattern; else ..");
        PatternMachine x = new PatternMachine();
        Checks.addText(x, "ab");
        Checks.type(x, "a");
        for (int n : new int[] {0, 1, -1, 82, Integer.MIN_VALUE, Integer.MAX_VALUE}) {
            for (int k : new int[] {-1, 0, 2, -2, Integer.MIN_VALUE, Integer.MAX_VALUE}) {
                checks.fails("piece " + n + " " + k, IllegalStateException.class, () -> x.piece(n, k));
            }
        }
        checks.equal("text stays", "ab", Checks.text(x));
        checks.equal("line stays", "a", Checks.lineOf(x));
    }

    private static void pieceRefusesOtherNumbers() {
        checks.about("else NoSuchElementException: there is no such piece");
        PatternMachine x = Checks.machine("-", "ab-c");
        checks.equal("the last one", 1, x.piece(1, -1));
        for (int n : new int[] {-1, -2, 2, 3, 80, 81, 82, Integer.MIN_VALUE, Integer.MAX_VALUE}) {
            checks.fails("piece " + n, NoSuchElementException.class, () -> x.piece(n, -1));
            checks.fails("piece " + n, NoSuchElementException.class, () -> x.piece(n, 0));
        }
    }

    private static void noPieceComesBeforeNoCharacter() {
        checks.about("else NoSuchElementException: there is no such piece; else IndexOutOfBoundsException");
        PatternMachine x = Checks.machine("-", "ab-c");
        for (int n : new int[] {-1, 2, Integer.MIN_VALUE, Integer.MAX_VALUE}) {
            for (int k : new int[] {-2, 99, Integer.MIN_VALUE, Integer.MAX_VALUE}) {
                checks.fails("piece " + n + " " + k, NoSuchElementException.class, () -> x.piece(n, k));
            }
        }
    }

    private static void pieceRefusesOtherCharacters() {
        checks.about("else IndexOutOfBoundsException: no such character");
        PatternMachine x = Checks.machine("-", "ab-c");
        for (int k : new int[] {-2, -3, 2, 3, 4, 80, Integer.MIN_VALUE, Integer.MAX_VALUE}) {
            checks.fails("character " + k, IndexOutOfBoundsException.class, () -> x.piece(0, k));
        }
        for (int k : new int[] {-2, 1, 2, Integer.MIN_VALUE, Integer.MAX_VALUE}) {
            checks.fails("character " + k + " behind the last place", IndexOutOfBoundsException.class, () -> x.piece(1, k));
        }
        PatternMachine full = Checks.machine("-", FULL);
        checks.fails("character 80 of a full text", IndexOutOfBoundsException.class, () -> full.piece(0, 80));
    }

    private static void emptyPiecesHaveNoCharacter() {
        checks.about("else IndexOutOfBoundsException: no such character");
        PatternMachine x = Checks.machine("-", "-a-");
        for (int n : new int[] {0, 2}) {
            checks.equal("length", 0, x.piece(n, -1));
            checks.fails("character 0 of piece " + n, IndexOutOfBoundsException.class, () -> x.piece(n, 0));
        }
        PatternMachine empty = Checks.machine("a", "");
        checks.equal("length in an empty text", 0, empty.piece(0, -1));
        checks.fails("character 0 of an empty text", IndexOutOfBoundsException.class, () -> empty.piece(0, 0));
    }

    private static void pieceForgetsAlsoWhenThrown() {
        checks.about("Nothing has been found then. (Also when one of the last two is thrown.)");
        PatternMachine x = Checks.machine("(-)", "ab-c");
        Checks.type(x, "line");
        for (int n : new int[] {-1, 2, 99}) {
            x.find(0);
            checks.fails("piece " + n, NoSuchElementException.class, () -> x.piece(n, 0));
            checks.equal("found behind piece " + n, 0, x.look(3));
            checks.fails("group", IllegalStateException.class, () -> x.group(0, false));
        }
        for (int k : new int[] {-2, 2, 99}) {
            x.find(0);
            checks.fails("character " + k, IndexOutOfBoundsException.class, () -> x.piece(0, k));
            checks.equal("found behind character " + k, 0, x.look(3));
            checks.fails("group", IllegalStateException.class, () -> x.group(0, false));
        }
        checks.equal("text stays", "ab-c", Checks.text(x));
        checks.equal("pattern stays", "2-3 2-3", Checks.find(x, 0));
        checks.equal("line stays", "line", Checks.lineOf(x));
    }
}
