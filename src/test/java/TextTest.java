/** Promises 5, 6, 13 and 14: text, clear, character, look. */
final class TextTest {
    private static final Checks checks = new Checks("TextTest");

    public static void main(String[] args) {
        theLineGoesBehindTheText();
        theTextHoldsEighty();
        textForgetsWhatWasFound();
        clearEmptiesTheText();
        characterIsOfTheText();
        lookTellsTheState();
        checks.end();
    }

    private static void theLineGoesBehindTheText() {
        PatternMachine x = new PatternMachine();
        checks.equal("an empty line", 0, x.text());
        Checks.type(x, "ab\nc");
        checks.equal("text", 4, x.text());
        checks.equal("line", 0, x.look(1));
        checks.equal("again", 4, x.text());
        Checks.type(x, "d e");
        checks.equal("more", 7, x.text());
        checks.equal("all", "ab\ncd e", Checks.text(x));
    }

    private static void theTextHoldsEighty() {
        PatternMachine x = new PatternMachine();
        Checks.type(x, Checks.times("a", 40));
        checks.equal("forty", 40, x.text());
        Checks.type(x, Checks.times("b", 39));
        checks.equal("79", 79, x.text());
        Checks.type(x, "cde");
        checks.equal("one fits", 80, x.text());
        checks.equal("the rest is lost with the line", 0, x.look(1));
        Checks.type(x, "f");
        checks.equal("full", 80, x.text());
        checks.equal("line", 0, x.look(1));
        checks.equal("all", Checks.times("a", 40) + Checks.times("b", 39) + "c", Checks.text(x));
    }

    private static void textForgetsWhatWasFound() {
        PatternMachine x = Checks.machine("a", "a");
        x.find(0);
        checks.equal("found", 1, x.look(3));
        x.text();
        checks.equal("forgotten", 0, x.look(3));
        checks.fails("group", IllegalStateException.class, () -> x.group(0, false));
        checks.equal("the pattern stays", true, x.find(0));
    }

    private static void clearEmptiesTheText() {
        PatternMachine x = Checks.machine("(a)", "ab");
        x.find(0);
        Checks.type(x, "xy");
        x.clear();
        checks.equal("text", 0, x.look(2));
        checks.equal("character", -1, x.character(0));
        checks.equal("found", 0, x.look(3));
        checks.fails("group", IllegalStateException.class, () -> x.group(0, true));
        checks.equal("line stays", 2, x.look(1));
        checks.equal("pattern stays", 1, x.look(0));
        checks.equal("new text", 2, x.text());
        checks.equal("only the new text", "xy", Checks.text(x));
    }

    private static void characterIsOfTheText() {
        PatternMachine x = new PatternMachine();
        Checks.addText(x, "~ \nA");
        Checks.type(x, "zzzzzzz");
        int[] due = {126, 32, 10, 65};
        for (int k = 0; k < due.length; k++) {
            checks.equal("character " + k, due[k], x.character(k));
        }
        int[] outside = {-1, 4, 5, 79, 80, 81, Integer.MIN_VALUE, Integer.MAX_VALUE};
        for (int k : outside) {
            checks.equal("character " + k, -1, x.character(k));
        }
        x.clear();
        checks.equal("behind clear", -1, x.character(0));
    }

    private static void lookTellsTheState() {
        PatternMachine x = Checks.machine("(a)(?:b)(c)", "xabc");
        Checks.type(x, "12345");
        checks.equal("groups", 2, x.look(0));
        checks.equal("line", 5, x.look(1));
        checks.equal("text", 4, x.look(2));
        checks.equal("nothing found yet", 0, x.look(3));
        x.find(0);
        checks.equal("found", 1, x.look(3));
        x.find(2);
        checks.equal("found no more", 0, x.look(3));
        int[] others = {-1, 4, 5, Integer.MIN_VALUE, Integer.MAX_VALUE};
        for (int what : others) {
            checks.equal("look " + what, -1, x.look(what));
        }
        x.wipe();
        Checks.compile(x, "a", 0);
        checks.equal("groups of the new pattern", 0, x.look(0));
    }
}
