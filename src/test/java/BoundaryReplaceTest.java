import java.util.NoSuchElementException;

/** The boundaries of replace() and result(), one sentence of the document each. */
public final class BoundaryReplaceTest {
    private static final Class<UnsupportedOperationException> TOO_MUCH =
        UnsupportedOperationException.class;
    private static final Class<NoSuchElementException> NONE = NoSuchElementException.class;
    private static final String TWENTY_AS = "a".repeat(20);

    public static void main(String[] args) {
        fillsTheTemplate();
        goesOnBehindWhatIsEmpty();
        writesUpToTwoHundred();
        writesUpToTwoHundredByEachPart();
        writesUpToTwoHundredByLongParts();
        findsWithFiveHundredStepsEach();
        forgetsWhenReplaced();
        answersSignsOfTheResult();
        answersOfTheLatestThatDidNotThrow();
        Check.end();
    }

    private static void fillsTheTemplate() {
        Check.sentence("\"$$\" is \"$\", \"$&\" what was found, \"$n\" (1 .. 9, when the pattern "
            + "has group n) what the group took, and all other signs are themselves");
        for (int groups = 0; groups <= 9; groups++) {
            String pattern = "(b)".repeat(groups) + "c";
            String text = "b".repeat(groups) + "c";
            for (int n = 0; n <= 9; n++) {
                boolean isGroup = n >= 1 && n <= groups;
                String part = "$" + n;
                Check.replaces(pattern, 0, text, "<" + part + ">", 1,
                    isGroup ? "<b>" : "<" + part + ">");
            }
        }
        for (char sign = 32; sign <= 126; sign++) {
            String due = sign == '$' ? "$" : sign == '&' ? "ab" : sign == '1' ? "a" : "$" + sign;
            Check.replaces("(a)b", 0, "ab", "$" + sign, 1, due);
            Check.replaces("(a)b", 0, "ab", "" + sign, 1, "" + sign);
        }
        Check.replaces("(a)b", 0, "ab", "", 1, "");
        Check.replaces("(a)b", 0, "ab", "$$$", 1, "$$");
        Check.replaces("(a)b", 0, "ab", "$$1", 1, "$1");
        Check.replaces("(a)b", 0, "ab", "$$$1", 1, "$a");
        Check.replaces("(a)b", 0, "ab", "$$&", 1, "$&");
        Check.replaces("(a)b", 0, "ab", "$10", 1, "a0");
        Check.replaces("(a)b", 0, "ab", "$2$1", 1, "$2a");
        Check.sentence("what the group took (nothing, if it took nothing)");
        Check.replaces("(a)|(b)", 0, "ab", "[$1$2]", 2, "[a][b]");
        Check.replaces("(a*)b", 0, "b", "[$1]", 1, "[]");
        Check.replaces("(a)?b", 0, "bab", "[$1]", 2, "[][a]");
        Check.replaces("x()*", 0, "x", "[$&$1]", 1, "[x]");
    }

    private static void goesOnBehindWhatIsEmpty() {
        Check.sentence("after each find START is the end of what was found, or, when that was "
            + "empty, one more");
        Check.replaces("", 0, "", "-", 1, "-");
        Check.replaces("", 0, "a", "-", 2, "-a-");
        Check.replaces("a*", 0, "a", "-", 2, "--");
        Check.replaces("a*", 0, "ba", "-", 3, "-b--");
        Check.replaces("a*?", 0, "aa", "-", 3, "-a-a-");
        Check.replaces("a|", 0, "ba", "-", 3, "-b--");
        Check.replaces("aa", 0, "aaa", "-", 1, "-a");
        Check.replaces("$", 0, "ab", "-", 1, "ab-");
        Check.replaces("^", 0, "ab", "-", 1, "-ab");
        Check.replaces("(?=b)", 0, "abb", "-", 2, "a-b-b");
        Check.replaces("(?=(b))", 0, "abb", "$1", 2, "abbbb");
        Check.replaces("", Check.STICKY, "ab", "-", 3, "-a-b-");
        Check.replaces("a?", Check.STICKY, "ba", "-", 3, "-b--");
        Check.replaces("a", Check.STICKY, "aba", "-", 1, "-ba");
        Check.replaces("b", 0, "", "-", 0, "");
        Check.replaces("b", 0, "a", "-", 0, "a");
        String full = "z".repeat(24);
        Check.replaces("", 0, full, "-", 25, "-z".repeat(24) + "-");
        Check.replaces("z", 0, full, "-", 24, "-".repeat(24));
        Check.replaces("z", 0, full, "", 24, "");
        Check.replaces("z*", 0, full, "-", 2, "--");
        Check.replaces("q", 0, full, "-", 0, full);
    }

    private static void refusesToReplace(String pattern, int flags, String text, String template) {
        PatternRunner runner = Check.ready(pattern, flags, text);
        Check.type(runner, template);
        Check.refuses("replace() of " + pattern + " by " + template + " in " + text, TOO_MUCH,
            runner::replace);
        Check.refuses("result(0) when replace() threw", NONE, () -> runner.result(0));
    }

    private static void writesUpToTwoHundred() {
        Check.sentence("UnsupportedOperationException: the result would have more than 200 signs");
        String twenty = "01234567890123456789";
        String nineteen = twenty.substring(1);
        String as = "a".repeat(10);
        String bs = "b".repeat(10);
        Check.replaces("b", 0, bs + as.substring(1), nineteen, 10,
            nineteen.repeat(10) + as.substring(1));
        Check.replaces("b", 0, bs + as, nineteen, 10, nineteen.repeat(10) + as);
        refusesToReplace("b", 0, bs + as + "a", nineteen);
        Check.replaces("b", 0, as + bs, nineteen, 10, as + nineteen.repeat(10));
        refusesToReplace("b", 0, as + "a" + bs, nineteen);
        Check.replaces("b", 0, "bbbbb", twenty + twenty, 5, twenty.repeat(10));
        refusesToReplace("b", 0, "bbbbba", twenty + twenty);
        refusesToReplace("b", 0, "bbbbbb", twenty + twenty);
        String full = "z".repeat(24);
        Check.replaces("", 0, full, "1234567", 25, "1234567z".repeat(24) + "1234567");
        refusesToReplace("", 0, full, "12345678");
        refusesToReplace("", 0, full, twenty + twenty);
    }

    // Ten times 20 signs, the last ones written by the part, make 200.
    private static void writesUpToTwoHundredByEachPart() {
        Check.sentence("the result would have more than 200 signs");
        String bs = "b".repeat(10);
        String[] parts = {"x", "$&", "$1", "$$", "$", "$2", "$0"};
        String[] written = {"x", "b", "b", "$", "$", "$2", "$0"};
        for (int i = 0; i < parts.length; i++) {
            String dashes = "-".repeat(20 - written[i].length());
            String template = dashes + parts[i];
            Check.replaces("(b)", 0, bs, template, 10, (dashes + written[i]).repeat(10));
            refusesToReplace("(b)", 0, bs + "a", template);
            refusesToReplace("(b)", 0, "a" + bs, template);
            refusesToReplace("(b)", 0, "bbbbbabbbbb", template);
        }
        Check.replaces("b(c)?", 0, bs, "-".repeat(20) + "$1", 10, "-".repeat(200));
        Check.replaces("b(c*)", 0, bs, "-".repeat(20) + "$1$1", 10, "-".repeat(200));
        refusesToReplace("b(c*)", 0, bs + "c", "-".repeat(20) + "$1");
    }

    // Two times 12 eights and 4 make 200.
    private static void writesUpToTwoHundredByLongParts() {
        Check.sentence("the result would have more than 200 signs");
        String eight = "abcdefgh";
        for (String part : new String[] {"$&", "$1"}) {
            String template = "----" + part.repeat(12);
            Check.replaces("(.{8})", 0, eight + eight, template, 2,
                ("----" + eight.repeat(12)).repeat(2));
            refusesToReplace("(.{8})", 0, eight + eight + "a", template);
            refusesToReplace("(\\w{8})", 0, "-" + eight + eight, template);
            refusesToReplace("(.{8})", 0, eight + eight, template + part);
        }
    }

    // At the first place of twenty a's, "a*a*b" makes 484 steps in vain.
    private static void findsWithFiveHundredStepsEach() {
        Check.sentence("UnsupportedOperationException: one of the finds would throw");
        int sticky = Check.STICKY;
        Check.replaces("a*a*b|a{9}a{5}b", sticky, TWENTY_AS, "-", 0, TWENTY_AS);
        refusesToReplace("a*a*b|a{9}a{6}b", sticky, TWENTY_AS, "-");
        String text = "x" + TWENTY_AS;
        Check.replaces("x|a*a*b|a{9}a{3}b", sticky, text, "-", 1, "-" + TWENTY_AS);
        refusesToReplace("x|a*a*b|a{9}a{4}b", sticky, text, "-");
        // More than 500 steps in two finds, but not in one of them.
        PatternRunner runner = Check.ready("x|a*a*b|a{9}a{3}b", sticky, text);
        runner.find();
        int first = runner.steps();
        runner.find();
        Check.is("the steps of two finds", 502, first + runner.steps());
        Check.replaces("(?:b|c|d|e|f|g|h|i|j)*a", 0, "a".repeat(24), "-", 24, "-".repeat(24));
    }

    private static void forgetsWhenReplaced() {
        Check.sentence("What is typed is a template; nothing is typed then. Finds from START 0 on");
        PatternRunner runner = Check.ready("(a)", 0, "aba");
        runner.find();
        runner.find();
        Check.is("replace() goes from 0 on", 2, Check.replace(runner, "<$1>"));
        Check.isText("replace() goes from 0 on", "<a>b<a>", Check.result(runner));
        Check.sentence("Then START is 0 and nothing was found");
        for (int k = 0; k <= 2; k++) {
            Check.is("from(" + k + ")", -1, runner.from(k));
            Check.is("to(" + k + ")", -1, runner.to(k));
        }
        Check.is("find() from 0 on", 0, runner.find());
        runner.start(2);
        Check.is("replace() with nothing typed", 2, runner.replace());
        Check.isText("replace() with nothing typed", "b", Check.result(runner));
        Check.is("find() from 0 on", 0, runner.find());
        Check.is("find() goes on in the text, not in the result", 2, runner.find());
        runner.start(24);
        Check.is("replace() with START behind the end", 2, Check.replace(runner, "-"));
        Check.pattern(runner, "b", Check.STICKY);
        runner.start(1);
        Check.is("replace() with STICKY, not from START on", 0, Check.replace(runner, "-"));
        Check.isText("replace() with STICKY, not from START on", "aba", Check.result(runner));
        Check.is("START is 0 when nothing was replaced", -1, runner.find());
        Check.is("nothing is typed", 0, runner.text());
    }

    private static void answersSignsOfTheResult() {
        Check.sentence("The sign at a place of the result. NoSuchElementException: there is none");
        int[] far = {201, 255, 256, 1 << 16, Integer.MAX_VALUE, Integer.MIN_VALUE};
        for (int length = 0; length <= 200; length += 20) {
            PatternRunner runner = Check.ready("b", 0, "b".repeat(length / 20));
            Check.replace(runner, "0123456789abcdefghij");
            for (int place = -2; place < 0; place++) {
                int given = place;
                Check.refuses("result(" + place + ")", NONE, () -> runner.result(given));
            }
            for (int place = 0; place < length; place++) {
                Check.is("result(" + place + ")", "0123456789abcdefghij".charAt(place % 20),
                    runner.result(place));
            }
            for (int place = length; place <= 202; place++) {
                int given = place;
                Check.refuses("result(" + place + ") of " + length, NONE,
                    () -> runner.result(given));
            }
            for (int place : far) {
                Check.refuses("result(" + place + ")", NONE, () -> runner.result(place));
                Check.refuses("result(-" + place + ")", NONE, () -> runner.result(-place));
            }
        }
    }

    private static void answersOfTheLatestThatDidNotThrow() {
        Check.sentence("the result of the latest replace() that did not throw");
        PatternRunner runner = Check.ready("b", 0, "abc");
        Check.refuses("result(0) before a replace()", NONE, () -> runner.result(0));
        Check.replace(runner, "<$&>");
        Check.isText("the first result", "a<b>c", Check.result(runner));
        Check.text(runner, "b".repeat(24));
        Check.isText("with a new text", "a<b>c", Check.result(runner));
        Check.type(runner, "123456789");
        Check.refuses("216 signs", TOO_MUCH, runner::replace);
        Check.isText("when a replace() threw", "a<b>c", Check.result(runner));
        runner.pattern(0);
        runner.pattern(0);
        runner.find();
        Check.isText("with a new pattern", "a<b>c", Check.result(runner));
        runner.text();
        Check.is("replace() in the empty text", 1, Check.replace(runner, "-"));
        Check.isText("a shorter result", "-", Check.result(runner));
        Check.is("replace() by nothing", 1, runner.replace());
        Check.isText("the empty result", "", Check.result(runner));
    }
}
