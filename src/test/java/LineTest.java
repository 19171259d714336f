/** Promises 1 to 3: a new object, type, wipe. */
final class LineTest {
    private static final Checks checks = new Checks("LineTest");

    public static void main(String[] args) {
        aNewObjectIsEmpty();
        typeAppendsToTheLine();
        typeRefusesOtherCharacters();
        typeRefusesTheFortyFirst();
        aFullLineRefusesEveryCharacter();
        typeTouchesTheLineAlone();
        wipeMakesTheLineEmpty();
        wipeTouchesTheLineAlone();
        checks.end();
    }

    private static void aNewObjectIsEmpty() {
        checks.about("A new object: An empty line, no pattern, an empty text");
        PatternMachine x = new PatternMachine();
        checks.equal("groups", 0, x.look(0));
        checks.equal("line", 0, x.look(1));
        checks.equal("text", 0, x.look(2));
        checks.equal("found", 0, x.look(3));
        checks.equal("character", -1, x.character(0));
        checks.fails("find", IllegalStateException.class, () -> x.find(0));
        checks.fails("matches", IllegalStateException.class, () -> x.matches());
        checks.fails("group", IllegalStateException.class, () -> x.group(0, false));
        checks.fails("count", IllegalStateException.class, () -> x.count());
        checks.fails("replace", IllegalStateException.class, () -> x.replace());
        checks.fails("piece", IllegalStateException.class, () -> x.piece(0, -1));
        checks.equal("the empty line becomes the text", 0, new PatternMachine().text());
    }

    private static void typeAppendsToTheLine() {
        checks.about("Appends a character to the line: true");
        PatternMachine x = new PatternMachine();
        for (int i = 1; i <= 40; i++) {
            checks.equal("type", true, x.type((char) (47 + i)));
            checks.equal("line", i, x.look(1));
        }
        checks.equal("as it was typed", Checks.signs(48, 87), Checks.lineOf(x));
    }

    private static void typeRefusesOtherCharacters() {
        checks.about("codes 32 .. 126, and 10; false (refused) if it is not as it must be");
        for (int c = 0; c < 0x10000; c++) {
            PatternMachine x = new PatternMachine();
            boolean due = c == 10 || c >= 32 && c <= 126;
            checks.equal("type " + c, due, x.type((char) c));
            checks.equal("line behind " + c, due ? 1 : 0, x.look(1));
        }
        PatternMachine x = new PatternMachine();
        Checks.type(x, "a");
        for (char c : new char[] {0, 9, 11, 13, 31, 127, 128, 255, 256 + 'a', 0xFFFF}) {
            checks.equal("type " + (int) c, false, x.type(c));
        }
        Checks.type(x, "b");
        checks.equal("the line without what was refused", "ab", Checks.lineOf(x));
    }

    private static void typeRefusesTheFortyFirst() {
        checks.about("false (refused) if .. forty are there");
        PatternMachine x = new PatternMachine();
        Checks.type(x, Checks.times("a", 39));
        checks.equal("the 40th", true, x.type('b'));
        checks.equal("the 41st", false, x.type('c'));
        checks.equal("the 42nd", false, x.type('\n'));
        checks.equal("line", 40, x.look(1));
        checks.equal("the line without what was refused", Checks.times("a", 39) + "b", Checks.lineOf(x));
        checks.equal("room again", true, x.type('d'));
    }

    private static void aFullLineRefusesEveryCharacter() {
        checks.about("false (refused) if it is not as it must be or forty are there");
        PatternMachine x = new PatternMachine();
        Checks.type(x, Checks.times("a", 40));
        for (int c = 0; c < 256; c++) {
            checks.equal("type " + c, false, x.type((char) c));
        }
        checks.equal("the line as it was", Checks.times("a", 40), Checks.lineOf(x));
    }

    private static PatternMachine withAll() {
        PatternMachine x = Checks.machine("(b)", "abc");
        x.find(0);
        return x;
    }

    private static void typeTouchesTheLineAlone() {
        checks.about("Appends a character to the line");
        PatternMachine x = withAll();
        Checks.type(x, "xyz");
        x.type((char) 0);
        checks.equal("text", "abc", Checks.text(x));
        checks.equal("found", "1-2 1-2", Checks.caught(x));
        checks.equal("pattern", "1-2 1-2", Checks.find(x, 0));
    }

    private static void wipeMakesTheLineEmpty() {
        checks.about("wipe: Makes the line empty");
        PatternMachine x = new PatternMachine();
        x.wipe();
        checks.equal("an empty line", 0, x.look(1));
        Checks.type(x, "xyz");
        x.wipe();
        checks.equal("three characters", 0, x.look(1));
        Checks.type(x, Checks.times("a", 40));
        x.wipe();
        checks.equal("a full line", 0, x.look(1));
        checks.equal("room again", true, x.type('q'));
        checks.equal("only what was typed behind wipe", "q", Checks.lineOf(x));
    }

    private static void wipeTouchesTheLineAlone() {
        checks.about("wipe: Makes the line empty");
        PatternMachine x = withAll();
        Checks.type(x, "xyz");
        x.wipe();
        checks.equal("text", "abc", Checks.text(x));
        checks.equal("found", "1-2 1-2", Checks.caught(x));
        checks.equal("pattern", "1-2 1-2", Checks.find(x, 0));
    }
}
