import java.util.ArrayList;
import java.util.Arrays;
import java.util.List;
import java.util.Random;

/** The WAYS of a pattern just as the document tells them, tried one after the other without any machine. */
final class Ways {
    /** Where a way goes on; true if it has come to what was sought. */
    interface Rest {
        boolean goOn(int place, int[] caught);
    }

    /** Thrown when trying one way after the other takes too long to be waited for. */
    static final class TooLong extends RuntimeException {
        private static final long serialVersionUID = 1L;
    }

    abstract static class Part {
        abstract String written();

        abstract long size();

        abstract boolean ways(Ways in, int place, int[] caught, Rest rest);
    }

    final String text;
    final int flags;
    private long steps;

    Ways(String text, int flags) {
        this.text = text;
        this.flags = flags;
    }

    /** What is found first from a place on, as slots, or null. */
    int[] find(Part pattern, int from) {
        for (int place = from; place <= text.length(); place++) {
            int[] found = first(pattern, place, false);
            if (found != null) {
                return found;
            }
        }
        return null;
    }

    int[] first(Part pattern, int begin, boolean toTheEnd) {
        int[] none = new int[10];
        Arrays.fill(none, -1);
        int[][] found = new int[1][];
        steps = 0;
        pattern.ways(this, begin, none, (place, caught) -> {
            if (toTheEnd && place != text.length()) {
                return false;
            }
            found[0] = caught.clone();
            found[0][0] = begin;
            found[0][1] = place;
            return true;
        });
        return found[0];
    }

    /** All that is found one after the other. */
    List<int[]> places(Part pattern) {
        List<int[]> places = new ArrayList<>();
        int from = 0;
        while (from <= text.length()) {
            int[] place = find(pattern, from);
            if (place == null) {
                break;
            }
            places.add(place);
            from = place[1] > place[0] ? place[1] : place[1] + 1;
        }
        return places;
    }

    private void step() {
        steps++;
        if (steps > 200_000) {
            throw new TooLong();
        }
    }

    /** What SIZE counts as one and is not made of other parts. */
    abstract static class Single extends Part {
        final String written;

        Single(String written) {
            this.written = written;
        }

        String written() {
            return written;
        }

        long size() {
            return 1;
        }
    }

    /** An atom of one character; java.util.regex is asked whether it takes one. */
    static final class One extends Single {
        One(String written) {
            super(written);
        }

        boolean ways(Ways in, int place, int[] caught, Rest rest) {
            in.step();
            return place < in.text.length() && takes(in.text.charAt(place), in.flags) && rest.goOn(place + 1, caught);
        }

        private boolean takes(char c, int flags) {
            if (written.equals(".")) {
                return c != '\n' || (flags & 4) != 0;
            }
            boolean others = written.startsWith("[^");
            String positive = others ? "[" + written.substring(2) : written;
            String blanks = positive.replace("\\s", positive.startsWith("[") ? " \n" : "[ \n]").replace("\\S", "[^ \n]");
            String regex = blanks.startsWith("[") ? blanks : "(?:" + blanks + ")";
            boolean same = String.valueOf(c).matches(regex);
            if ((flags & 1) != 0 && Character.isLetter(c)) {
                char other = Character.isUpperCase(c) ? Character.toLowerCase(c) : Character.toUpperCase(c);
                same |= String.valueOf(other).matches(regex);
            }
            return same != others;
        }
    }

    static final class Assertion extends Single {
        Assertion(String written) {
            super(written);
        }

        boolean ways(Ways in, int place, int[] caught, Rest rest) {
            in.step();
            return holds(in, place) && rest.goOn(place, caught);
        }

        private boolean holds(Ways in, int place) {
            String before = place == 0 ? "" : in.text.substring(place - 1, place);
            String behind = place == in.text.length() ? "" : in.text.substring(place, place + 1);
            boolean byLines = (in.flags & 2) != 0;
            boolean edge = before.matches("\\w") ^ behind.matches("\\w");
            switch (written) {
                case "^":
                    return before.isEmpty() || byLines && before.equals("\n");
                case "$":
                    return behind.isEmpty() || byLines && behind.equals("\n");
                case "\\b":
                    return edge;
                default:
                    return !edge;
            }
        }
    }

    /** CHAINs with | between; a chain is a list of parts. */
    static final class Pattern extends Part {
        final List<List<Part>> chains = new ArrayList<>();

        String written() {
            StringBuilder all = new StringBuilder();
            for (int i = 0; i < chains.size(); i++) {
                all.append(i == 0 ? "" : "|");
                for (Part part : chains.get(i)) {
                    all.append(part.written());
                }
            }
            return all.toString();
        }

        long size() {
            long size = 2L * (chains.size() - 1);
            for (List<Part> chain : chains) {
                for (Part part : chain) {
                    size += part.size();
                }
            }
            return size;
        }

        boolean ways(Ways in, int place, int[] caught, Rest rest) {
            for (List<Part> chain : chains) {
                if (chainWays(in, chain, 0, place, caught, rest)) {
                    return true;
                }
            }
            return false;
        }

        private boolean chainWays(Ways in, List<Part> chain, int from, int place, int[] caught, Rest rest) {
            if (from == chain.size()) {
                return rest.goOn(place, caught);
            }
            return chain.get(from).ways(in, place, caught,
                    (then, more) -> chainWays(in, chain, from + 1, then, more, rest));
        }
    }

    /** A GROUP, or (?: ) with the number 0. */
    static final class Bracket extends Part {
        final int number;
        final Part inside;

        Bracket(int number, Part inside) {
            this.number = number;
            this.inside = inside;
        }

        String written() {
            return (number == 0 ? "(?:" : "(") + inside.written() + ")";
        }

        long size() {
            return inside.size() + (number == 0 ? 0 : 2);
        }

        boolean ways(Ways in, int place, int[] caught, Rest rest) {
            in.step();
            return inside.ways(in, place, caught, (end, more) -> {
                int[] own = more.clone();
                if (number > 0) {
                    own[2 * number] = place;
                    own[2 * number + 1] = end;
                }
                return rest.goOn(end, own);
            });
        }
    }

    static final class Count extends Part {
        final Part atom;
        final String count;
        final boolean lazy;

        Count(Part atom, String count, boolean lazy) {
            this.atom = atom;
            this.count = count;
            this.lazy = lazy;
        }

        String written() {
            return atom.written() + count + (lazy ? "?" : "");
        }

        private int least() {
            return count.equals("+") ? 1 : count.startsWith("{") ? count.charAt(1) - '0' : 0;
        }

        private boolean endless() {
            return count.equals("*") || count.equals("+") || count.endsWith(",}");
        }

        private int most() {
            return count.equals("?") ? 1 : count.charAt(count.length() - 2) - '0';
        }

        long size() {
            long each = atom.size();
            long more = endless() ? each + 2 : (most() - least()) * (each + 1);
            return least() * each + more;
        }

        boolean ways(Ways in, int place, int[] caught, Rest rest) {
            return must(in, least(), place, caught, rest);
        }

        private boolean must(Ways in, int times, int place, int[] caught, Rest rest) {
            if (times > 0) {
                return atom.ways(in, place, caught, (then, more) -> must(in, times - 1, then, more, rest));
            }
            return endless() ? star(in, place, caught, rest) : may(in, most() - least(), place, caught, rest);
        }

        private boolean star(Ways in, int place, int[] caught, Rest rest) {
            in.step();
            if (lazy && rest.goOn(place, caught)) {
                return true;
            }
            boolean taken = atom.ways(in, place, caught, (then, more) -> then > place && star(in, then, more, rest));
            return taken || !lazy && rest.goOn(place, caught);
        }

        private boolean may(Ways in, int times, int place, int[] caught, Rest rest) {
            in.step();
            if (times == 0) {
                return rest.goOn(place, caught);
            }
            if (lazy && rest.goOn(place, caught)) {
                return true;
            }
            boolean taken = atom.ways(in, place, caught, (then, more) -> may(in, times - 1, then, more, rest));
            return taken || !lazy && rest.goOn(place, caught);
        }
    }

    /** Makes patterns by chance, always the same ones from the same seed. */
    static final class Maker {
        private static final String[] ONES = {
            "a", "a", "b", "b", "A", "c", ".", "1", "\\d", "\\w", "\\s", "\\W", "\\D", "\\S", "\\n", "\\.", "[ab]",
            "[^a]", "[a-c]", "[^b-c1]", "[\\d-]", "[A-B]", "[^\\w]", "[\\s]", " ", "\n"
        };
        private static final String[] ASSERTIONS = {"^", "$", "\\b", "\\B"};
        private static final String[] COUNTS = {
            "*", "*", "*", "+", "+", "?", "?", "{0}", "{1}", "{2}", "{0,}", "{1,}", "{2,}", "{0,1}", "{0,2}", "{1,3}",
            "{2,2}", "{0,0}", "{2,5}"
        };
        private final Random random;
        int groups;

        Maker(long seed) {
            random = new Random(seed);
        }

        private <T> T oneOf(T[] all) {
            return all[random.nextInt(all.length)];
        }

        Pattern pattern(int depth) {
            Pattern pattern = new Pattern();
            int chains = random.nextInt(3) == 0 ? 1 + random.nextInt(3) : 1;
            for (int i = 0; i < chains; i++) {
                List<Part> chain = new ArrayList<>();
                int parts = random.nextInt(8) == 0 ? 0 : 1 + random.nextInt(3);
                for (int k = 0; k < parts; k++) {
                    chain.add(part(depth));
                }
                pattern.chains.add(chain);
            }
            return pattern;
        }

        private Part part(int depth) {
            if (random.nextInt(10) == 0) {
                return new Assertion(oneOf(ASSERTIONS));
            }
            Part atom = atom(depth);
            return random.nextInt(2) == 0 ? atom : new Count(atom, oneOf(COUNTS), random.nextInt(3) == 0);
        }

        private Part atom(int depth) {
            if (depth == 0 || random.nextInt(5) < 2) {
                return new One(oneOf(ONES));
            }
            if (groups < 4 && random.nextInt(2) == 0) {
                groups++;
                int number = groups;
                return new Bracket(number, pattern(depth - 1));
            }
            return new Bracket(0, pattern(depth - 1));
        }

        String text(int most) {
            String signs = random.nextBoolean() ? "aab" : "aabbcA1 \n.";
            StringBuilder text = new StringBuilder();
            int length = random.nextInt(most + 1);
            for (int i = 0; i < length; i++) {
                text.append(signs.charAt(random.nextInt(signs.length())));
            }
            return text.toString();
        }

        int flags() {
            return random.nextInt(8);
        }
    }
}
