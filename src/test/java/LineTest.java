/** Promises 1 to 3: a new object, type, wipe. */
final class LineTest {
    private static final Checks checks = new Checks("LineTest");

    public static void main(String[] args) {
        aNewObjectIsEmpty();
        typeTakesTheCharactersOfALine();
        theLineHoldsForty();
        wipeMakesTheLineEmptyAndNothingElse();
        checks.end();
    }

    private static void aNewObjectIsEmpty() {
        PatternMachine x = new PatternMachine();
        checks.equal("groups", 0, x.look(0));
        checks.equal("line", 0, x.look(1));
        checks.equal("text", 0, x.look(2));
        checks.equal("found", 0, x.look(3));
        checks.equal("character", -1, x.character(0));
        checks.fails("find", IllegalStateException.class, () -> x.find(0));
        checks.fails("find far off", IllegalStateException.class, () -> x.find(-1));
        checks.fails("matches", IllegalStateException.class, () -> x.matches());
        checks.fails("group", IllegalStateException.class, () -> x.group(0, false));
        checks.fails("count", IllegalStateException.class, () -> x.count());
        checks.fails("replace", IllegalStateException.class, () -> x.replace());
        checks.fails("piece", IllegalStateException.class, () -> x.piece(0, -1));
    }

    private static void typeTakesTheCharactersOfALine() {
        for (int c = 0; c < 0x10000; c++) {
            PatternMachine x = new PatternMachine();
            boolean due = c == 10 || c >= 32 && c <= 126;
            checks.equal("type " + c, due, x.type((char) c));
            checks.equal("line behind " + c, due ? 1 : 0, x.look(1));
        }
    }

    private static void theLineHoldsForty() {
        PatternMachine x = new PatternMachine();
        for (int i = 1; i <= 40; i++) {
            checks.equal("type", true, x.type((char) (47 + i)));
            checks.equal("line", i, x.look(1));
        }
        checks.equal("the 41st", false, x.type('a'));
        checks.equal("line", 40, x.look(1));
        x.text();
        for (int i = 1; i <= 40; i++) {
            checks.equal("as it was typed", 47 + i, x.character(i - 1));
        }
        checks.equal("room again", true, x.type('a'));
    }

    private static void wipeMakesTheLineEmptyAndNothingElse() {
        PatternMachine x = Checks.machine("(b)", "abc");
        x.find(0);
        Checks.type(x, "xyz");
        x.wipe();
        checks.equal("line", 0, x.look(1));
        checks.equal("text", "abc", Checks.text(x));
        checks.equal("found", "1-2 1-2", Checks.caught(x));
        x.wipe();
        checks.equal("line wiped twice", 0, x.look(1));
        Checks.type(x, "q");
        x.text();
        checks.equal("only what was typed behind wipe", "abcq", Checks.text(x));
    }
}
