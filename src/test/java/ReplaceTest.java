/** Promise 10: writing what is to stand in place of what was found. */
public final class ReplaceTest {
    private static final Class<UnsupportedOperationException> TOO_MUCH =
        UnsupportedOperationException.class;

    public static void main(String[] args) {
        fillsTemplates();
        goesOnBehindEach();
        leavesStateBehind();
        throwsAboveTwoHundred();
        throwsWhenAFindWould();
        Check.end();
    }

    private static void fillsTemplates() {
        Check.replaces("b", 0, "abc", "x", 1, "axc");
        Check.replaces("b", 0, "abc", "", 1, "ac");
        Check.replaces("b", 0, "abc", "$$", 1, "a$c");
        Check.replaces("b", 0, "abc", "[$&$&]", 1, "a[bb]c");
        Check.replaces("(a)(b)", 0, "abc", "$2$1", 1, "bac");
        Check.replaces("(a)|(b)", 0, "ab", "<$1$2>", 2, "<a><b>");
        Check.replaces("(a)", 0, "a", "$2", 1, "$2");
        Check.replaces("(a)", 0, "a", "$0", 1, "$0");
        Check.replaces("(a)", 0, "a", "$", 1, "$");
        Check.replaces("(a)", 0, "a", "x$", 1, "x$");
        Check.replaces("(a)", 0, "a", "$$1", 1, "$1");
        Check.replaces("(a)", 0, "a", "$$$1", 1, "$a");
        Check.replaces("(a)", 0, "a", "$$$$$", 1, "$$$");
        Check.replaces("(a)", 0, "a", "$11", 1, "a1");
        Check.replaces("(a)", 0, "a", "$x$1", 1, "$xa");
        Check.replaces("(a)", 0, "a", "$3$1", 1, "$3a");
        Check.replaces("(a)", 0, "a", "&1\\1%", 1, "&1\\1%");
        Check.replaces("a", 0, "a", "$1", 1, "$1");
        Check.replaces("()a", 0, "a", "<$1>", 1, "<>");
        Check.replaces("(a)(b)(c)(d)(e)(f)(g)(h)(i)", 0, "abcdefghi", "$9$8$7$6$5$4$3$2$1", 1,
            "ihgfedcba");
        Check.replaces("(?=(b))", 0, "ab", "$1", 1, "abb");
    }

    private static void goesOnBehindEach() {
        Check.replaces("a", 0, "banana", "o", 3, "bonono");
        Check.replaces("a*", 0, "xaabbaab", "-", 7, "-x--b-b--b-");
        Check.replaces("", 0, "ab", "-", 3, "-a-b-");
        Check.replaces("", 0, "", "-", 1, "-");
        Check.replaces("", 0, "", "", 1, "");
        Check.replaces("x", 0, "abc", "y", 0, "abc");
        Check.replaces("aa", 0, "aaaaa", "b", 2, "bba");
        Check.replaces("a", 1, "aaba", "x", 2, "xxba");
        Check.replaces("b", 1, "ab", "x", 0, "ab");
        Check.replaces("a*", 1, "ab", "-", 3, "--b-");
        Check.replaces("^", 2, "a/b", "> ", 2, "> a/> b");
        Check.replaces("$", 2, "a/b", ";", 2, "a;/b;");
        Check.replaces("^a", 0, "aa", "x", 1, "xa");
        Check.replaces("A", 4, "aAb", "$&$&", 2, "aaAAb");
        Check.replaces("", 0, "aaaaaaaaaaaaaaaaaaaaaaaa", "-", 25,
            "-a-a-a-a-a-a-a-a-a-a-a-a-a-a-a-a-a-a-a-a-a-a-a-a-");
        Check.replaces("a", 0, "aaaaaaaaaaaaaaaaaaaaaaaa", "", 24, "");
    }

    private static void leavesStateBehind() {
        PatternRunner runner = Check.ready("a", 0, "abaa");
        runner.find();
        runner.find();
        runner.start(3);
        Check.is("it goes from 0 on, whatever START is", 3, Check.replace(runner, "x"));
        Check.is("nothing was found then", -1, runner.from(0));
        Check.is("nothing was found then", -1, runner.to(0));
        Check.is("nothing is typed then", 0, Check.typedBeforeOneMore(runner));
        Check.is("START is 0, the text as before", 0, runner.find());
        runner.text();
        Check.text(runner, "abaa");
        Check.is("with nothing typed", 3, runner.replace());
        Check.isText("with nothing typed", "b", Check.result(runner));
    }

    private static void throwsAboveTwoHundred() {
        String twenty = "12345678901234567890";
        Check.replaces("b", 0, "bbbbbbbbbb", twenty, 10, twenty.repeat(10));
        Check.replaces("b", 0, "bbbbb", twenty + twenty, 5, twenty.repeat(10));
        Check.replaces("b", 0, "bbbbbbbbbaaa", twenty + "a", 9, (twenty + "a").repeat(9) + "aaa");

        PatternRunner runner = Check.ready("(b)", 0, "bbbbbbbbbba");
        Check.is("a result to be kept", 10, Check.replace(runner, "x"));
        runner.find();
        runner.find();
        Check.type(runner, twenty);
        Check.refuses("201 signs, the last of the text", TOO_MUCH, runner::replace);
        Check.refuses("201 signs again", TOO_MUCH, runner::replace);
        Check.is("what was found stays", 1, runner.from(0));
        Check.is("what was taken stays", 2, runner.to(1));
        Check.isText("the result stays", "xxxxxxxxxxa", Check.result(runner));
        Check.is("what is typed stays", 20, Check.typedBeforeOneMore(runner));
        Check.is("START stays", 2, runner.find());

        PatternRunner more = Check.ready("b", 0, "bbbbbbbbbbbbbbbbbbbbbbbb");
        Check.type(more, "1234567890123456789012345678901234567890");
        Check.refuses("960 signs", TOO_MUCH, more::replace);
        Check.refuses("40 stay typed", IllegalArgumentException.class, () -> more.type('b', 1));
    }

    private static void throwsWhenAFindWould() {
        PatternRunner runner = Check.ready("a|(b+)+c", 0, "aabbbbbbbbbb");
        Check.is("the first", 0, runner.find());
        int before = runner.steps();
        Check.type(runner, "xy");
        Check.refuses("the third find would throw", TOO_MUCH, runner::replace);
        Check.is("what was found stays", 0, runner.from(0));
        Check.is("steps() stays", before, runner.steps());
        Check.is("what is typed stays", 2, Check.typedBeforeOneMore(runner));
        Check.is("START stays", 1, runner.find());
        Check.refuses("there is no result", java.util.NoSuchElementException.class,
            () -> runner.result(0));

        // Each find has 500 steps of its own: this makes far more than 500 in all.
        PatternRunner many = Check.ready("(?:b|c|d|e|f|g|h|i|j)*a", 0, "aaaaaaaaaaaaaaaaaaaaaaaa");
        Check.is("many finds", 24, Check.replace(many, "-"));
    }
}
