import java.util.NoSuchElementException;
import java.util.Random;

/** Long runs of chosen calls (always the same ones), each answer compared with the reference's. */
public final class RandomRunsTest {
    private static final int RUNS = 1500;
    // What an object answers behind its 512th call is free.
    private static final int CALLS = 512;

    private final Random random;
    private final PatternRunner runner = new PatternRunner();
    private final Reference model = new Reference();
    private final StringBuilder told = new StringBuilder();
    private String refused = "";
    private int calls = 0;
    private static int accepted = 0;
    private static int refusals = 0;
    private static int finds = 0;
    private static int tooManySteps = 0;
    private static int replaced = 0;

    private RandomRunsTest(long seed) {
        random = new Random(seed);
    }

    public static void main(String[] args) {
        int runs = args.length > 0 ? Integer.parseInt(args[0]) : RUNS;
        int first = args.length > 1 ? Integer.parseInt(args[1]) : 0;
        for (int run = 0; run < runs; run++) {
            RandomRunsTest one = new RandomRunsTest(first + run);
            one.go();
        }
        System.out.println("patterns " + accepted + ", refused " + refusals + ", finds " + finds
            + ", too many steps " + tooManySteps + ", replaced " + replaced);
        Check.isTrue("many patterns were accepted", accepted > runs);
        Check.isTrue("many patterns were refused", refusals > runs);
        Check.isTrue("many finds were made", finds > runs);
        Check.isTrue("some finds took too many steps", tooManySteps > 0);
        Check.isTrue("many replacements were made", replaced > runs);
        Check.end();
    }

    private void go() {
        for (int i = 0; i < CALLS && calls < CALLS; i++) {
            some();
        }
    }

    /** Makes some calls that belong together. */
    private void some() {
        switch (random.nextInt(14)) {
            case 0:
            case 1:
                typed(aPattern());
                one("pattern", pickFlags());
                break;
            case 2:
                typed(aPattern());
                one("pattern", random.nextInt(8));
                break;
            case 3:
            case 4:
                typed(aText());
                one("text", 0);
                break;
            case 5:
                one("start", random.nextInt(random.nextInt(4) == 0 ? 40 : 12) - 2);
                break;
            case 6:
                typed(aTemplate());
                one("replace", 0);
                ofResult();
                break;
            case 7:
                typed(random.nextBoolean() ? aText() : aTemplate());
                break;
            case 8:
                one("result", random.nextInt(210) - 4);
                break;
            case 9:
                nearTheLimits();
                break;
            default:
                one("find", 0);
                one("steps", 0);
                taken();
                break;
        }
    }

    /** A pattern that makes some 500 steps, and a template that makes some 200 signs. */
    private void nearTheLimits() {
        typed("a".repeat(18 + random.nextInt(5)));
        one("text", 0);
        typed(pick("a*a*b|(a){9}a{%d}", "a*a*b|a{9}\\d*?a{%d}b", "c|a*b|d{%d}a*c",
            "(a{6,})\\1(b|c|a{%d}d)", "a+b|(?=a{9}a{%d})|c").replace("%d",
                String.valueOf(random.nextInt(10))));
        one("pattern", random.nextInt(4));
        one("find", 0);
        one("steps", 0);
        taken();
        typed(cut("$&0123456789012345678901234567890123456789", 2 + random.nextInt(20)));
        one("replace", 0);
        ofResult();
    }

    private int pickFlags() {
        return random.nextInt(10) == 0 ? random.nextInt(20) - 6 : random.nextInt(8);
    }

    private void taken() {
        int most = random.nextInt(3) == 0 ? 10 : 2;
        for (int k = most == 10 ? -1 : 0; k <= most; k++) {
            one("from", k);
            one("to", k);
        }
    }

    private void ofResult() {
        int length = model.resultLength();
        boolean isAll = length < 12 || random.nextInt(4) == 0;
        for (int i = -1; i <= length; i += isAll ? 1 : 1 + random.nextInt(length / 4)) {
            one("result", i);
        }
        one("result", length - 1);
        one("result", length);
    }

    private void typed(String signs) {
        int i = 0;
        while (i < signs.length() && calls < CALLS) {
            calls++;
            int n = Math.min(signs.length() - i, 1 + random.nextInt(8));
            String part = signs.substring(i, i + n);
            told.append("type ").append(part).append('\n');
            long due = answer(() -> model.type(part));
            long got = answer(() -> runner.type(Check.packed(part), part.length()));
            compare("type", due, got);
            i += n;
        }
    }

    private void one(String name, int argument) {
        if (calls >= CALLS) {
            return;
        }
        calls++;
        told.append(name).append(' ').append(argument).append('\n');
        long due = answer(() -> ofModel(name, argument));
        long got = answer(() -> ofRunner(name, argument));
        compare(name, due, got);
        count(name, due);
    }

    private void count(String name, long due) {
        boolean thrown = due < -1000;
        if (name.equals("pattern")) {
            accepted += thrown ? 0 : 1;
            refusals += thrown ? 1 : 0;
        }
        if (name.equals("find")) {
            finds += due >= 0 ? 1 : 0;
            tooManySteps += thrown ? 1 : 0;
        }
        if (name.equals("replace")) {
            replaced += due > 0 ? 1 : 0;
        }
    }

    private void compare(String name, long due, long got) {
        if (due != got && refused.isEmpty()) {
            refused = told.toString();
            Check.complain("after these calls " + name + " answered " + got + ", due is " + due
                + ":\n" + refused);
        }
        Check.is(name, due, got);
    }

    private static long answer(Check.Call call) {
        try {
            return call.answer();
        } catch (IllegalArgumentException e) {
            return -1001;
        } catch (IllegalStateException e) {
            return -1002;
        } catch (UnsupportedOperationException e) {
            return -1003;
        } catch (NoSuchElementException e) {
            return -1004;
        }
    }

    private long ofModel(String name, int argument) {
        switch (name) {
            case "pattern": return model.pattern(argument);
            case "text": return model.text();
            case "start": return model.start(argument);
            case "find": return model.find();
            case "from": return model.from(argument);
            case "to": return model.to(argument);
            case "steps": return model.steps();
            case "replace": return model.replace();
            default: return model.result(argument);
        }
    }

    private long ofRunner(String name, int argument) {
        switch (name) {
            case "pattern": return runner.pattern(argument);
            case "text": return runner.text();
            case "start": return runner.start(argument);
            case "find": return runner.find();
            case "from": return runner.from(argument);
            case "to": return runner.to(argument);
            case "steps": return runner.steps();
            case "replace": return runner.replace();
            default: return runner.result(argument);
        }
    }

    private String pick(String... parts) {
        return parts[random.nextInt(parts.length)];
    }

    private String cut(String signs, int most) {
        return signs.length() > most ? signs.substring(0, most) : signs;
    }

    private String aPattern() {
        if (random.nextInt(10) == 0) {
            return pick("(a*)*b", "(a|b)*?c", "(?:a|(a))+$", "(a+)+\\1b", "(?=(a*)*b)|a*",
                "(.?.)*x", "(?!(a|b)*c)\\w*1", "a*a*a*b", "(?:[ab]{1,3}?)*c", "((a?)*)*b|b",
                "(a{2,3}|a)*1");
        }
        if (random.nextInt(6) == 0) {
            return cut(aFullPattern(), 40);
        }
        String pattern = alternatives(random.nextInt(4));
        for (int tries = 0; tries < 20 && pattern.length() > 40; tries++) {
            pattern = alternatives(random.nextInt(4));
        }
        if (random.nextInt(5) == 0 && !pattern.isEmpty()) {
            int place = random.nextInt(pattern.length());
            String put = random.nextBoolean() ? "" : pick("(", ")", "[", "]", "{", "}", "*", "?",
                "\\", "|", "-", "^", "+", ",", "2", "(?", "(?:", "{3", "$", "=", "!", ":");
            pattern = pattern.substring(0, place) + put
                + pattern.substring(place + random.nextInt(2));
        }
        return cut(pattern, 40);
    }

    /** A pattern with nearly or more than what is allowed of groups, nesting or weight. */
    private String aFullPattern() {
        switch (random.nextInt(3)) {
            case 0:
                return "(a)".repeat(random.nextInt(3)) + "()".repeat(6 + random.nextInt(3))
                    + pick("", "(?:b)", "|", "\\9", "\\8", "(?=a)");
            case 1:
                StringBuilder nested = new StringBuilder();
                int depth = 6 + random.nextInt(4);
                for (int i = 0; i < depth; i++) {
                    nested.append(pick("(", "(", "(?:", "(?=", "(?!"));
                }
                return nested + pick("", "a", ".*", "|b") + ")".repeat(depth) + pick("", "a", "*");
            default:
                return pick("(?:a{9}){9}", "((a|b{7}){5}){2}", "(?:(a)|b{8,}){7}", "(?:a*b+){9}")
                    + "a".repeat(random.nextInt(8)) + term(1) + term(1);
        }
    }

    private String alternatives(int depth) {
        StringBuilder all = new StringBuilder(row(depth));
        for (int more = random.nextInt(4) - 1; more > 0; more--) {
            all.append('|').append(row(depth));
        }
        return all.toString();
    }

    private String row(int depth) {
        StringBuilder all = new StringBuilder();
        for (int terms = random.nextInt(4); terms > 0; terms--) {
            all.append(term(depth));
        }
        return all.toString();
    }

    private String term(int depth) {
        int kind = random.nextInt(14);
        if (kind == 0) {
            return pick("^", "$");
        }
        if (kind == 1 && depth > 0) {
            return pick("(?=", "(?!") + alternatives(depth - 1) + ")";
        }
        String atom = kind < 7 && depth > 0
            ? pick("(", "(", "(?:") + alternatives(depth - 1) + ")" : simple();
        return random.nextInt(2) == 0 ? atom : atom + pick("*", "+", "?", "{2}", "{0}", "{1,}",
            "{0,2}", "{1,3}", "{2,}", "{0,}", "{3,1}", "{9}", "{0,0}", "{2,4}")
            + pick("", "", "?");
    }

    private String simple() {
        switch (random.nextInt(8)) {
            case 0: return ".";
            case 1: return "\\" + pick("d", "w", "s", "D", "W", "S", "/", ".", "$", "q", "-", "|");
            case 2: return "\\" + pick("1", "1", "2", "3");
            case 3: return "[" + pick("", "^") + members() + "]";
            default: return pick("a", "b", "a", "b", "A", "B", "/", " ", "1", "-", "_");
        }
    }

    private String members() {
        StringBuilder all = new StringBuilder();
        for (int marks = random.nextInt(6); marks > 0; marks--) {
            all.append(pick("a", "b", "c", "A", "-", "-", "-", "/", " ", "1", "^", "[", "a-c", "Z",
                "\\d", "\\W", "\\-", "\\]", "\\/", "+", "z", "A-z", "\\s", "0-9", "X-b"));
        }
        return all.toString();
    }

    private String aText() {
        StringBuilder all = new StringBuilder();
        String from = pick("ab", "ab", "a", "aAbB/", "ab/ 1-_", "abcABC/ 109-_^[]+zZ.$");
        for (int signs = random.nextInt(random.nextInt(3) == 0 ? 28 : 12); signs > 0; signs--) {
            all.append(from.charAt(random.nextInt(from.length())));
        }
        return all.toString();
    }

    private String aTemplate() {
        StringBuilder all = new StringBuilder();
        for (int parts = random.nextInt(8); parts > 0; parts--) {
            all.append(pick("$", "$$", "$&", "$1", "$2", "$3", "$0", "x", "-", "&", "1", "$9"));
        }
        if (random.nextInt(6) == 0) {
            all.append("0123456789012345678901");
        }
        return cut(all.toString(), 40);
    }
}
