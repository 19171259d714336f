/** Promises 5, 6, 13 and 14: text, clear, character, look. */
final class TextTest {
    private static final Checks checks = new Checks("TextTest");

    public static void main(String[] args) {
        theLineGoesBehindTheText();
        thereIsRoomForEighty();
        whatThereIsNoRoomForIsLost();
        theLineIsEmptyBehindText();
        textForgetsWhatWasFound();
        textLeavesThePattern();
        clearEmptiesTheText();
        clearForgetsWhatWasFound();
        clearLeavesLineAndPattern();
        characterIsOfTheText();
        characterOfAFullText();
        lookTellsTheGroups();
        lookTellsTheLengths();
        lookTellsWhetherSomethingWasFound();
        lookKnowsNoOther();
        checks.end();
    }

    private static void theLineGoesBehindTheText() {
        checks.about("text: The line goes behind the text: how many the text has");
        PatternMachine x = new PatternMachine();
        checks.equal("an empty line", 0, x.text());
        Checks.type(x, "ab\nc");
        checks.equal("text", 4, x.text());
        checks.equal("an empty line again", 4, x.text());
        Checks.type(x, "d e");
        checks.equal("more", 7, x.text());
        checks.equal("all", "ab\ncd e", Checks.text(x));
    }

    private static void thereIsRoomForEighty() {
        checks.about("as far as there is room for at most 80 characters");
        PatternMachine x = new PatternMachine();
        Checks.type(x, Checks.times("a", 40));
        checks.equal("forty", 40, x.text());
        Checks.type(x, Checks.times("b", 39));
        checks.equal("79", 79, x.text());
        Checks.type(x, "c");
        checks.equal("80", 80, x.text());
        checks.equal("all", Checks.times("a", 40) + Checks.times("b", 39) + "c", Checks.text(x));
        PatternMachine y = new PatternMachine();
        Checks.type(y, Checks.times("a", 40));
        y.text();
        Checks.type(y, Checks.times("b", 40));
        checks.equal("two full lines", 80, y.text());
        checks.equal("both", Checks.times("a", 40) + Checks.times("b", 40), Checks.text(y));
    }

    private static void whatThereIsNoRoomForIsLost() {
        checks.about("What there is no room for is lost");
        PatternMachine x = new PatternMachine();
        Checks.addText(x, Checks.times("a", 79));
        Checks.type(x, "bcd");
        checks.equal("one fits", 80, x.text());
        checks.equal("the first one", Checks.times("a", 79) + "b", Checks.text(x));
        Checks.type(x, "e");
        checks.equal("full", 80, x.text());
        checks.equal("as it was", Checks.times("a", 79) + "b", Checks.text(x));
        Checks.type(x, Checks.times("f", 40));
        checks.equal("a full line", 80, x.text());
        checks.equal("empty line", 80, x.text());
        x.clear();
        checks.equal("it does not come again", 0, x.text());
    }

    private static void theLineIsEmptyBehindText() {
        checks.about("text: the line is empty then");
        PatternMachine x = new PatternMachine();
        Checks.type(x, "abc");
        x.text();
        checks.equal("line", 0, x.look(1));
        Checks.addText(x, Checks.times("a", 80));
        checks.equal("line of which a part is lost", 0, x.look(1));
        Checks.type(x, "q");
        x.text();
        checks.equal("line that is lost whole", 0, x.look(1));
    }

    private static void textForgetsWhatWasFound() {
        checks.about("text: nothing has been found");
        PatternMachine x = Checks.machine("a", "a");
        x.find(0);
        x.text();
        checks.equal("with an empty line", 0, x.look(3));
        checks.fails("group", IllegalStateException.class, () -> x.group(0, false));
        x.find(0);
        Checks.type(x, "b");
        x.text();
        checks.equal("with a line", 0, x.look(3));
        PatternMachine full = Checks.machine("a", Checks.times("a", 80));
        full.find(0);
        Checks.type(full, "b");
        full.text();
        checks.equal("with a line that is lost", 0, full.look(3));
    }

    private static void textLeavesThePattern() {
        checks.about("text: The line goes behind the text");
        PatternMachine x = Checks.machine("(a)", "b");
        Checks.type(x, "a");
        x.text();
        checks.equal("groups", 1, x.look(0));
        checks.equal("found in the new text", "1-2 1-2", Checks.find(x, 0));
    }

    private static void clearEmptiesTheText() {
        checks.about("clear: The text is empty then");
        PatternMachine x = new PatternMachine();
        x.clear();
        checks.equal("an empty text", 0, x.look(2));
        for (int length : new int[] {1, 79, 80}) {
            Checks.addText(x, Checks.times("a", length));
            x.clear();
            checks.equal("text", 0, x.look(2));
            checks.equal("character", -1, x.character(0));
        }
        Checks.addText(x, "b");
        checks.equal("only the new text", "b", Checks.text(x));
    }

    private static void clearForgetsWhatWasFound() {
        checks.about("clear: nothing has been found");
        PatternMachine x = Checks.machine("(a)?", "ab");
        x.find(0);
        x.clear();
        checks.equal("found", 0, x.look(3));
        checks.fails("group", IllegalStateException.class, () -> x.group(0, true));
        x.find(0);
        checks.equal("found in the empty text", 1, x.look(3));
        x.clear();
        checks.equal("found no more", 0, x.look(3));
    }

    private static void clearLeavesLineAndPattern() {
        checks.about("clear: The text is empty then; nothing has been found");
        PatternMachine x = Checks.machine("(a)", "ab");
        Checks.type(x, "xa");
        x.clear();
        checks.equal("line", 2, x.look(1));
        checks.equal("groups", 1, x.look(0));
        checks.equal("the line becomes the text", 2, x.text());
        checks.equal("pattern", "1-2 1-2", Checks.find(x, 0));
    }

    private static void characterIsOfTheText() {
        checks.about("Character k of the text; -1 if there is none");
        PatternMachine x = new PatternMachine();
        checks.equal("of an empty text", -1, x.character(0));
        checks.equal("before an empty text", -1, x.character(-1));
        Checks.addText(x, "~ \nA");
        Checks.type(x, "zzzzzzz");
        int[] due = {126, 32, 10, 65};
        for (int k = 0; k < due.length; k++) {
            checks.equal("character " + k, due[k], x.character(k));
        }
        int[] outside = {-1, -2, 4, 5, 79, 80, 81, Integer.MIN_VALUE, Integer.MAX_VALUE};
        for (int k : outside) {
            checks.equal("character " + k, -1, x.character(k));
        }
        x.clear();
        checks.equal("behind clear", -1, x.character(0));
    }

    private static void characterOfAFullText() {
        checks.about("Character k of the text; -1 if there is none");
        PatternMachine x = Checks.machine("a", Checks.times("a", 79) + "b");
        checks.equal("the last", (int) 'b', x.character(79));
        checks.equal("behind the last", -1, x.character(80));
        x.find(3);
        x.character(0);
        checks.equal("found stays", "3-4", Checks.caught(x));
    }

    private static void lookTellsTheGroups() {
        checks.about("The groups of the pattern (what = 0; 0 without)");
        PatternMachine x = new PatternMachine();
        checks.equal("no pattern", 0, x.look(0));
        Checks.type(x, "(a)(b)");
        checks.equal("only typed", 0, x.look(0));
        x.compile(0);
        checks.equal("two", 2, x.look(0));
        Checks.compile(x, "(a)(?:b)((c)(d))", 0);
        checks.equal("four", 4, x.look(0));
        Checks.compile(x, "(?:a)\\([(]", 0);
        checks.equal("none", 0, x.look(0));
    }

    private static void lookTellsTheLengths() {
        checks.about("the length of the line (1) and of the text (2)");
        PatternMachine x = new PatternMachine();
        checks.equal("line", 0, x.look(1));
        checks.equal("text", 0, x.look(2));
        Checks.addText(x, Checks.times("a", 80));
        Checks.type(x, Checks.times("b", 40));
        checks.equal("full line", 40, x.look(1));
        checks.equal("full text", 80, x.look(2));
    }

    private static void lookTellsWhetherSomethingWasFound() {
        checks.about("1 if something was found, else 0 (3)");
        PatternMachine x = new PatternMachine();
        checks.equal("new", 0, x.look(3));
        Checks.addText(x, "ab");
        Checks.compile(x, "a", 0);
        checks.equal("not sought yet", 0, x.look(3));
        x.find(0);
        checks.equal("found", 1, x.look(3));
        checks.equal("still found", 1, x.look(3));
        x.find(1);
        checks.equal("not found", 0, x.look(3));
        x.compile(0);
        x.find(2);
        checks.equal("nothing at the end is found", 1, x.look(3));
    }

    private static void lookKnowsNoOther() {
        checks.about("-1 for another what");
        PatternMachine x = Checks.machine("(a)", "a");
        x.find(0);
        int[] others = {-1, -2, 4, 5, 256, Integer.MIN_VALUE, Integer.MAX_VALUE};
        for (int what : others) {
            checks.equal("look " + what, -1, x.look(what));
        }
        checks.equal("found stays", "0-1 0-1", Checks.caught(x));
    }
}
