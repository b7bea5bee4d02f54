/** Promise 9: how many steps the latest find() made. */
public final class StepsTest {
    public static void main(String[] args) {
        countsSteps();
        isOfTheLatestFind();
        goesUpToFiveHundred();
        Check.end();
    }

    private static void countsSteps() {
        Check.steps("", 0, "", 1);
        Check.steps("a", 0, "a", 2);
        Check.steps("a", 0, "", 2);
        Check.steps("a", 0, "bba", 6);
        Check.steps("a", 1, "bba", 2);
        Check.steps("^$", 0, "", 1);
        Check.steps("^$", 0, "ab", 3);
        Check.steps("(a+)(b*)", 0, "xaabbaab", 12);
        Check.steps("(?:){3}(a?){2,4}?a$", 0, "aaaa", 12);
        Check.steps("(a|ab)(c|bcd)(d*)", 0, "b", 10);
        Check.steps("(a*)*b", 0, "aaaa", 124);
        Check.steps("||", 0, "", 1);
        Check.steps("a|b|", 0, "", 5);
        Check.steps("(?:)", 0, "", 2);
        Check.steps("()\\1", 0, "", 3);
        Check.steps("\\1(a)", 0, "a", 4);
        Check.steps("(?=a)a", 0, "a", 4);
        Check.steps("(?!a)b", 0, "b", 4);
        Check.steps("(?!a)", 0, "", 3);
        Check.steps("a{0}", 0, "a", 1);
        Check.steps("a{0,0}(b){0}", 0, "a", 1);
        Check.steps("a{3}", 0, "aaa", 4);
        Check.steps("a??", 0, "a", 1);
        Check.steps("a?", 0, "a", 2);
        Check.steps(".\\d[b]", 0, "a1b", 4);
        Check.steps("(?:a|b)+", 0, "ab", 11);
    }

    private static void isOfTheLatestFind() {
        PatternRunner runner = Check.ready("a", 0, "bba");
        Check.replace(runner, "x");
        Check.is("steps() before a find()", 0, runner.steps());
        runner.find();
        Check.is("steps()", 6, runner.steps());
        Check.is("nothing behind it", -1, runner.find());
        Check.is("steps() at the end alone", 2, runner.steps());
        runner.start(4);
        runner.find();
        Check.is("steps() from behind the end", 0, runner.steps());
        // The finds of replace() make 6 steps and 2, this one makes 4.
        runner.start(1);
        runner.find();
        Check.replace(runner, "x");
        Check.is("steps() is not of replace()", 4, runner.steps());
        runner.start(1);
        Check.text(runner, "x");
        Check.pattern(runner, "x", 0);
        Check.is("steps() stays with a new start, text and pattern", 4, runner.steps());
        Check.pattern(runner, "(a*)*b", 0);
        Check.text(runner, "aaaaaaaaaaaaaaaaaaaaaaaa");
        Check.refuses("too many steps", UnsupportedOperationException.class, runner::find);
        Check.is("steps() stays when find() throws", 4, runner.steps());
    }

    private static void goesUpToFiveHundred() {
        Check.steps("a+?b|c|d", 0, "aaaaaaaaaaaaaaaaaaa", 500);
        Check.steps("a*b|()c", 0, "aaaaaaaaaaaaaaaaaaa", 500);
        Check.steps("a*b|ac", 0, "aaaaaaaaaaaaaaaaaaa", 499);
        PatternRunner more = Check.ready("(a+)+b", 0, "aaaaaa");
        Check.refuses("501 steps", UnsupportedOperationException.class, more::find);
        Check.is("steps() when find() threw", 0, more.steps());
    }
}
