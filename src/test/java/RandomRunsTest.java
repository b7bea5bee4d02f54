import java.util.NoSuchElementException;
import java.util.Random;

/** Long runs of chosen calls (always the same ones), each answer compared with the reference's. */
public final class RandomRunsTest {
    private static final int RUNS = 1500;
    private static final int CALLS = 250;

    private final Random random;
    private final PatternRunner runner = new PatternRunner();
    private final Reference model = new Reference();
    private final StringBuilder told = new StringBuilder();
    private String refused = "";
    private static int accepted = 0;
    private static int refusals = 0;
    private static int finds = 0;
    private static int tooManySteps = 0;
    private static int replaced = 0;

    private RandomRunsTest(long seed) {
        random = new Random(seed);
    }

    public static void main(String[] args) {
        int runs = args.length > 0 ? Integer.parseInt(args[0]) : RUNS;
        int first = args.length > 1 ? Integer.parseInt(args[1]) : 0;
        for (int run = 0; run < runs; run++) {
            RandomRunsTest one = new RandomRunsTest(first + run);
            one.go();
        }
        System.out.println("patterns " + accepted + ", refused " + refusals + ", finds " + finds
            + ", too many steps " + tooManySteps + ", replaced " + replaced);
        Check.isTrue("many patterns were accepted", accepted > runs);
        Check.isTrue("many patterns were refused", refusals > runs);
        Check.isTrue("many finds were made", finds > runs);
        Check.isTrue("some finds took too many steps", tooManySteps > 0);
        Check.isTrue("many replacements were made", replaced > runs);
        Check.end();
    }

    private void go() {
        int calls = 0;
        while (calls < CALLS) {
            calls += some();
        }
    }

    /** Makes some calls that belong together; answers how many at most. */
    private int some() {
        switch (random.nextInt(12)) {
            case 0:
            case 1:
                return 1 + typed(aPattern()) + one("pattern", pickFlags());
            case 2:
                return 1 + typed(aPattern()) + one("pattern", random.nextInt(8));
            case 3:
            case 4:
                return typed(aText()) + one("text", 0);
            case 5:
                return one("start", random.nextInt(random.nextInt(4) == 0 ? 40 : 12) - 2);
            case 6:
                return typed(aTemplate()) + one("replace", 0) + allOfResult();
            case 7:
                return typed(random.nextBoolean() ? aText() : aTemplate());
            case 8:
                return one("result", random.nextInt(210) - 4);
            default:
                return one("find", 0) + one("steps", 0) + one("steps", 0) + allTaken();
        }
    }

    private int pickFlags() {
        return random.nextInt(10) == 0 ? random.nextInt(20) - 6 : random.nextInt(8);
    }

    private int allTaken() {
        for (int k = -1; k <= 10; k++) {
            one("from", k);
            one("to", k);
        }
        return 10;
    }

    private int allOfResult() {
        for (int i = -1; i <= model.resultLength(); i++) {
            one("result", i);
        }
        return 10;
    }

    private int typed(String signs) {
        int calls = 0;
        for (int i = 0; i < signs.length(); calls++) {
            int n = Math.min(signs.length() - i, 1 + random.nextInt(8));
            String part = signs.substring(i, i + n);
            told.append("type ").append(part).append('\n');
            long due = answer(() -> model.type(part));
            long got = answer(() -> runner.type(Check.packed(part), part.length()));
            compare("type", due, got);
            i += n;
        }
        return calls;
    }

    private int one(String name, int argument) {
        told.append(name).append(' ').append(argument).append('\n');
        long due = answer(() -> ofModel(name, argument));
        long got = answer(() -> ofRunner(name, argument));
        compare(name, due, got);
        count(name, due);
        return 1;
    }

    private void count(String name, long due) {
        boolean thrown = due < -1000;
        if (name.equals("pattern")) {
            accepted += thrown ? 0 : 1;
            refusals += thrown ? 1 : 0;
        }
        if (name.equals("find")) {
            finds += due >= 0 ? 1 : 0;
            tooManySteps += thrown ? 1 : 0;
        }
        if (name.equals("replace")) {
            replaced += due > 0 ? 1 : 0;
        }
    }

    private void compare(String name, long due, long got) {
        if (due != got && refused.isEmpty()) {
            refused = told.toString();
            Check.complain("after these calls " + name + " answered " + got + ", due is " + due
                + ":\n" + refused);
        }
        Check.is(name, due, got);
    }

    private static long answer(Check.Call call) {
        try {
            return call.answer();
        } catch (IllegalArgumentException e) {
            return -1001;
        } catch (IllegalStateException e) {
            return -1002;
        } catch (UnsupportedOperationException e) {
            return -1003;
        } catch (NoSuchElementException e) {
            return -1004;
        }
    }

    private long ofModel(String name, int argument) {
        switch (name) {
            case "pattern": return model.pattern(argument);
            case "text": return model.text();
            case "start": return model.start(argument);
            case "find": return model.find();
            case "from": return model.from(argument);
            case "to": return model.to(argument);
            case "steps": return model.steps();
            case "replace": return model.replace();
            default: return model.result(argument);
        }
    }

    private long ofRunner(String name, int argument) {
        switch (name) {
            case "pattern": return runner.pattern(argument);
            case "text": return runner.text();
            case "start": return runner.start(argument);
            case "find": return runner.find();
            case "from": return runner.from(argument);
            case "to": return runner.to(argument);
            case "steps": return runner.steps();
            case "replace": return runner.replace();
            default: return runner.result(argument);
        }
    }

    private String pick(String... parts) {
        return parts[random.nextInt(parts.length)];
    }

    private String cut(String signs, int most) {
        return signs.length() > most ? signs.substring(0, most) : signs;
    }

    private String aPattern() {
        if (random.nextInt(10) == 0) {
            return pick("(a*)*b", "(a|b)*?c", "(?:a|(a))+$", "(a+)+\\1b", "(?=(a*)*b)|a*", "(.?.)*x",
                "(?!(a|b)*c)\\w*1", "a*a*a*b", "(?:[ab]{1,3}?)*c", "((a?)*)*b|b", "(a{2,3}|a)*1");
        }
        String pattern = alternatives(random.nextInt(4));
        for (int tries = 0; tries < 20 && pattern.length() > 40; tries++) {
            pattern = alternatives(random.nextInt(4));
        }
        if (random.nextInt(5) == 0 && !pattern.isEmpty()) {
            int place = random.nextInt(pattern.length());
            String put = random.nextBoolean() ? "" : pick("(", ")", "[", "]", "{", "}", "*", "?",
                "\\", "|", "-", "^", "+", ",", "2", "(?", "(?:", "{3", "$", "=", "!", ":");
            pattern = pattern.substring(0, place) + put
                + pattern.substring(place + random.nextInt(2));
        }
        return cut(pattern, 40);
    }

    private String alternatives(int depth) {
        StringBuilder all = new StringBuilder(row(depth));
        for (int more = random.nextInt(4) - 1; more > 0; more--) {
            all.append('|').append(row(depth));
        }
        return all.toString();
    }

    private String row(int depth) {
        StringBuilder all = new StringBuilder();
        for (int terms = random.nextInt(4); terms > 0; terms--) {
            all.append(term(depth));
        }
        return all.toString();
    }

    private String term(int depth) {
        int kind = random.nextInt(14);
        if (kind == 0) {
            return pick("^", "$");
        }
        if (kind == 1 && depth > 0) {
            return pick("(?=", "(?!") + alternatives(depth - 1) + ")";
        }
        String atom = kind < 7 && depth > 0
            ? pick("(", "(", "(?:") + alternatives(depth - 1) + ")" : simple();
        return random.nextInt(2) == 0 ? atom : atom + pick("*", "+", "?", "{2}", "{0}", "{1,}",
            "{0,2}", "{1,3}", "{2,}", "{0,}", "{3,1}", "{9}", "{0,0}", "{2,4}")
            + pick("", "", "?");
    }

    private String simple() {
        switch (random.nextInt(8)) {
            case 0: return ".";
            case 1: return "\\" + pick("d", "w", "s", "D", "W", "S", "/", ".", "$", "q", "-", "|");
            case 2: return "\\" + pick("1", "1", "2", "3");
            case 3: return "[" + pick("", "^") + members() + "]";
            default: return pick("a", "b", "a", "b", "A", "B", "/", " ", "1", "-", "_");
        }
    }

    private String members() {
        StringBuilder all = new StringBuilder();
        for (int marks = random.nextInt(6); marks > 0; marks--) {
            all.append(pick("a", "b", "c", "A", "-", "-", "-", "/", " ", "1", "^", "[", "a-c", "Z",
                "\\d", "\\W", "\\-", "\\]", "\\/", "+", "z", "A-z", "\\s", "0-9", "X-b"));
        }
        return all.toString();
    }

    private String aText() {
        StringBuilder all = new StringBuilder();
        String from = pick("ab", "ab", "a", "aAbB/", "ab/ 1-_", "abcABC/ 109-_^[]+zZ.$");
        for (int signs = random.nextInt(random.nextInt(3) == 0 ? 28 : 12); signs > 0; signs--) {
            all.append(from.charAt(random.nextInt(from.length())));
        }
        return all.toString();
    }

    private String aTemplate() {
        StringBuilder all = new StringBuilder();
        for (int parts = random.nextInt(8); parts > 0; parts--) {
            all.append(pick("$", "$$", "$&", "$1", "$2", "$3", "$0", "x", "-", "&", "1", "$9"));
        }
        if (random.nextInt(6) == 0) {
            all.append("0123456789012345678901");
        }
        return cut(all.toString(), 40);
    }
}
