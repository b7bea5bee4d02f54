import java.util.NoSuchElementException;

/** The boundaries that the promises name for the calls, one sentence of the document each. */
public final class BoundaryCallTest {
    private static final Class<IllegalArgumentException> WRONG = IllegalArgumentException.class;
    private static final Class<IllegalStateException> STATE = IllegalStateException.class;
    private static final Class<NoSuchElementException> NONE = NoSuchElementException.class;
    private static final int[] FAR = {100, 256, 1 << 16, Integer.MAX_VALUE, Integer.MIN_VALUE};

    public static void main(String[] args) {
        beginsEmpty();
        typesOneToEight();
        typesSignsAlone();
        typesUpToForty();
        takesFlagsUpToSeven();
        answersTheNumberOfGroups();
        emptiesWhatIsTyped();
        takesTextsUpToTwentyFour();
        startsUpToTwentyFour();
        findsUpToTheEnd();
        findsFromBehindTheEnd();
        findsAtStartAloneWhenSticky();
        setsStartToTheEnd();
        setsStartBackWhenNothingIsFound();
        tellsPlacesOfGroups();
        lastsFor512Calls();
        Check.end();
    }

    private static void beginsEmpty() {
        Check.sentence("Nothing is typed, the pattern and the text are empty, no flags, the START "
            + "is 0, nothing was found");
        Check.is("type() on a new object", 1, new PatternRunner().type('a', 1));
        Check.is("text() on a new object", 0, new PatternRunner().text());
        Check.is("pattern() on a new object", 0, new PatternRunner().pattern(0));
        Check.is("find() on a new object", 0, new PatternRunner().find());
        Check.is("replace() on a new object", 1, new PatternRunner().replace());
        Check.is("from(0) on a new object", -1, new PatternRunner().from(0));
        Check.is("to(0) on a new object", -1, new PatternRunner().to(0));
        Check.refuses("result(0) on a new object", NONE, () -> new PatternRunner().result(0));
        PatternRunner noFlags = new PatternRunner();
        Check.text(noFlags, "ab");
        noFlags.start(2);
        Check.is("the empty pattern at START", 2, noFlags.find());
        PatternRunner emptyText = new PatternRunner();
        Check.pattern(emptyText, ".|^$", 0);
        Check.is("the empty text", 0, emptyText.find());
        Check.is("the empty text", 0, emptyText.to(0));
        PatternRunner behind = new PatternRunner();
        behind.start(1);
        Check.is("START behind the empty text", -1, behind.find());
    }

    private static void typesOneToEight() {
        Check.sentence("IllegalArgumentException: n is not 1 .. 8");
        long signs = Check.packed("abcdefgh");
        for (int n = -9; n <= 17; n++) {
            int given = n;
            PatternRunner runner = new PatternRunner();
            if (n >= 1 && n <= 8) {
                Check.is("type(.., " + n + ")", n, runner.type(signs, n));
                Check.is("the text", n, runner.text());
                Check.pattern(runner, "^" + "abcdefgh".substring(0, n) + "$", 0);
                Check.is("the lowest first", 0, runner.find());
            } else {
                Check.refuses("type(.., " + n + ")", WRONG, () -> runner.type(signs, given));
                Check.is("nothing is typed", 0, runner.text());
            }
        }
        PatternRunner runner = new PatternRunner();
        for (int n : FAR) {
            Check.refuses("type(.., " + n + ")", WRONG, () -> runner.type(signs, n));
            Check.refuses("type(.., -" + n + ")", WRONG, () -> runner.type(signs, -n));
        }
        Check.is("nothing is typed", 0, runner.text());
    }

    private static void typesSignsAlone() {
        Check.sentence("SIGNS are the characters 32 .. 126; IllegalArgumentException: one is no "
            + "sign");
        int[] signs = {32, 33, 125, 126};
        int[] others = {0, 1, 10, 31, 127, 128, 159, 160, 254, 255};
        for (int place = 0; place < 8; place++) {
            PatternRunner runner = new PatternRunner();
            for (int sign : signs) {
                long all = withByte(place, sign);
                Check.is("sign " + sign + " at " + place, 8, runner.type(all, 8));
                Check.is("text()", 8, runner.text());
            }
            for (int other : others) {
                long all = withByte(place, other);
                for (int n = 1; n <= place; n++) {
                    Check.is("a byte " + other + " behind the n-th", n, runner.type(all, n));
                    Check.is("text()", n, runner.text());
                }
            }
        }
        for (int place = 0; place < 8; place++) {
            PatternRunner runner = new PatternRunner();
            for (int other : others) {
                long all = withByte(place, other);
                for (int n = place + 1; n <= 8; n++) {
                    int given = n;
                    Check.refuses("byte " + other + " at " + place + " of " + n, WRONG,
                        () -> runner.type(all, given));
                }
            }
            Check.is("nothing of that is typed", 0, runner.text());
        }
        for (int sign = 32; sign <= 126; sign++) {
            PatternRunner runner = new PatternRunner();
            runner.type(sign, 1);
            Check.is("replace() of nothing by the sign " + sign, 1, runner.replace());
            Check.is("the sign " + sign + " as it was typed", sign, runner.result(0));
        }
    }

    private static long withByte(int place, int value) {
        long mask = 255L << (8 * place);
        return Check.packed("abcdefgh") & ~mask | (long) value << (8 * place);
    }

    private static void typesUpToForty() {
        Check.sentence("IllegalArgumentException: there would be more than 40");
        long signs = Check.packed("abcdefgh");
        for (int n = 1; n <= 8; n++) {
            int given = n;
            PatternRunner runner = new PatternRunner();
            Check.type(runner, "z".repeat(40 - n));
            Check.is("40 in all", 40, runner.type(signs, n));
            Check.refuses("more than 40 in all", WRONG, () -> runner.type(signs, given));
            Check.refuses("41 in all", WRONG, () -> runner.type(signs, 1));
            PatternRunner more = new PatternRunner();
            Check.type(more, "z".repeat(41 - n));
            Check.refuses("41 in all", WRONG, () -> more.type(signs, given));
            Check.is("nothing of that is typed", 41 - n, Check.typedBeforeOneMore(more));
        }
    }

    private static void takesFlagsUpToSeven() {
        Check.sentence("with these flags (0 .. 7); IllegalArgumentException: flags are not so "
            + "(what is typed stays)");
        for (int flags = -9; flags <= 17; flags++) {
            int given = flags;
            PatternRunner runner = new PatternRunner();
            Check.type(runner, "()");
            if (flags >= 0 && flags <= 7) {
                Check.is("pattern(" + flags + ")", 1, runner.pattern(flags));
                Check.is("nothing is typed then", 0, runner.text());
            } else {
                Check.refuses("pattern(" + flags + ")", WRONG, () -> runner.pattern(given));
                Check.is("what is typed stays", 2, runner.text());
            }
        }
        PatternRunner runner = new PatternRunner();
        Check.type(runner, "()");
        for (int flags : FAR) {
            Check.refuses("pattern(" + flags + ")", WRONG, () -> runner.pattern(flags));
            Check.refuses("pattern(-" + flags + ")", WRONG, () -> runner.pattern(-flags));
        }
        Check.is("what is typed stays", 1, runner.pattern(7));
    }

    private static void answersTheNumberOfGroups() {
        Check.sentence("Answers how many groups it has");
        PatternRunner runner = new PatternRunner();
        for (int n = 0; n <= 9; n++) {
            Check.is("groups", n, Check.pattern(runner, "()".repeat(n), 0));
        }
        for (int n = 9; n >= 0; n--) {
            Check.is("groups", n, Check.pattern(runner, "(?:)()".repeat(n / 2) + "()".repeat(
                n - n / 2), 0));
        }
        Check.is("groups of the empty pattern", 0, runner.pattern(0));
    }

    private static void emptiesWhatIsTyped() {
        Check.sentence("it is refused (nothing is typed then, either)");
        PatternRunner runner = Check.ready("b", 0, "ab");
        Check.type(runner, "(");
        Check.refuses("pattern()", WRONG, () -> runner.pattern(0));
        Check.is("the pattern is the one before", 1, runner.find());
        Check.is("nothing is typed", 0, runner.pattern(0));
        Check.is("then the pattern is empty", 0, runner.find());
        Check.is("then the pattern is empty", 0, runner.to(0));
    }

    private static void takesTextsUpToTwentyFour() {
        Check.sentence("What is typed is the text now (it may be empty); IllegalStateException: "
            + "more than 24 are typed");
        for (int length = 0; length <= 40; length++) {
            PatternRunner runner = Check.ready("", 0, "q");
            Check.type(runner, "z".repeat(length));
            if (length <= 24) {
                Check.is("text()", length, runner.text());
                Check.pattern(runner, "$", 0);
                Check.is("all of it is there", length, runner.find());
            } else {
                Check.refuses("text() of " + length, STATE, runner::text);
                Check.is("what is typed stays", length, Check.typedBeforeOneMore(runner));
            }
        }
    }

    private static void startsUpToTwentyFour() {
        Check.sentence("START becomes place. IllegalArgumentException: it is not 0 .. 24");
        PatternRunner runner = Check.ready("", 0, "z".repeat(24));
        for (int place = -9; place <= 33; place++) {
            int given = place;
            if (place >= 0 && place <= 24) {
                Check.is("start(" + place + ")", place, runner.start(place));
                Check.is("find() from START on", place, runner.find());
            } else {
                runner.start(7);
                Check.refuses("start(" + place + ")", WRONG, () -> runner.start(given));
                Check.is("START stays", 7, runner.find());
            }
        }
        for (int place : FAR) {
            Check.refuses("start(" + place + ")", WRONG, () -> runner.start(place));
            Check.refuses("start(-" + place + ")", WRONG, () -> runner.start(-place));
        }
        Check.is("START stays", 7, runner.find());
        PatternRunner empty = new PatternRunner();
        Check.is("start(24) with the empty text", 24, empty.start(24));
    }

    private static void findsUpToTheEnd() {
        Check.sentence("at the places behind it, as long as nothing is found, up to the end of "
            + "the text");
        for (int length = 0; length <= 24; length++) {
            PatternRunner runner = Check.ready("$", 0, "z".repeat(length));
            Check.is("find() of the end", length, runner.find());
            Check.pattern(runner, "z$", 0);
            Check.is("find() of the last sign", length - 1, runner.find());
            Check.pattern(runner, "^|z", 0);
            Check.is("find() of the begin", 0, runner.find());
        }
        PatternRunner first = Check.ready("z", 0, "yzzz");
        Check.is("as long as nothing is found", 1, first.find());
    }

    private static void findsFromBehindTheEnd() {
        Check.sentence("-1 when nothing is (or START is greater than the text's length): START is "
            + "0 then, and nothing was found");
        for (int flags = 0; flags <= 1; flags++) {
            for (int length = 0; length <= 23; length++) {
                PatternRunner runner = Check.ready("()", flags, "z".repeat(length));
                runner.start(length);
                Check.is("find() at the end", length, runner.find());
                Check.is("what was found", length, runner.to(1));
                runner.start(length + 1);
                Check.is("find() from behind the end", -1, runner.find());
                Check.is("nothing was found", -1, runner.from(0));
                Check.is("nothing was found", -1, runner.to(1));
                Check.is("START is 0 then", 0, runner.find());
                runner.start(24);
                Check.is("find() from 24 on", -1, runner.find());
                Check.is("START is 0 then", 0, runner.find());
            }
        }
    }

    private static void findsAtStartAloneWhenSticky() {
        Check.sentence("Tries the pattern at START, and, unless it is STICKY, at the places "
            + "behind it");
        for (int flags = 0; flags <= 7; flags++) {
            boolean isSticky = (flags & Check.STICKY) != 0;
            PatternRunner runner = Check.ready("b", flags, "aabab");
            Check.is("find() from 0 on", isSticky ? -1 : 2, runner.find());
            runner.start(1);
            Check.is("find() from 1 on", isSticky ? -1 : 2, runner.find());
            runner.start(2);
            Check.is("find() from 2 on", 2, runner.find());
            Check.is("find() from 3 on", isSticky ? -1 : 4, runner.find());
            runner.start(4);
            Check.is("find() from 4 on", 4, runner.find());
            Check.is("find() from 5 on", -1, runner.find());
        }
        PatternRunner end = Check.ready("$", Check.STICKY, "ab");
        end.start(1);
        Check.is("the end is not tried", -1, end.find());
        end.start(2);
        Check.is("the end is START", 2, end.find());
    }

    private static void setsStartToTheEnd() {
        Check.sentence("The place where it was found; START is the end of what was found then");
        PatternRunner runner = Check.ready("ab?", 0, "aabxa");
        int[] places = {0, 1, 4, -1, 0};
        int[] ends = {1, 3, 5, -1, 1};
        for (int i = 0; i < places.length; i++) {
            Check.is("find()", places[i], runner.find());
            Check.is("from(0)", places[i], runner.from(0));
            Check.is("to(0)", ends[i], runner.to(0));
        }
        PatternRunner empty = Check.ready("b*", 0, "abb");
        Check.is("find() of the empty text", 0, empty.find());
        Check.is("find() of it again, as START stays", 0, empty.find());
        empty.start(1);
        Check.is("find() of two", 1, empty.find());
        Check.is("find() at the end", 3, empty.find());
        Check.is("find() at the end again", 3, empty.find());
        PatternRunner look = Check.ready("a(?=b)", 0, "abab");
        Check.is("find() in front of what a look sees", 0, look.find());
        Check.is("to(0) is in front of it", 1, look.to(0));
        Check.is("find() goes on there", 2, look.find());
    }

    private static void setsStartBackWhenNothingIsFound() {
        Check.sentence("-1 when nothing is: START is 0 then, and nothing was found");
        PatternRunner runner = Check.ready("(a)b?", 0, "abc");
        Check.is("find()", 0, runner.find());
        Check.is("what the group took", 1, runner.to(1));
        Check.is("find() in vain", -1, runner.find());
        for (int k = 0; k <= 2; k++) {
            Check.is("from(" + k + ")", -1, runner.from(k));
            Check.is("to(" + k + ")", -1, runner.to(k));
        }
        Check.is("find() from 0 on", 0, runner.find());
    }

    private static void tellsPlacesOfGroups() {
        Check.sentence("-1 when nothing was found, there is no such group, or it took nothing");
        for (int groups = 0; groups <= 9; groups++) {
            PatternRunner runner = Check.ready("(b)".repeat(groups), 0, "a" + "b".repeat(groups));
            runner.start(1);
            for (int k = -2; k <= 12; k++) {
                Check.is("from() before a find()", -1, runner.from(k));
                Check.is("to() before a find()", -1, runner.to(k));
            }
            runner.find();
            for (int k = -2; k <= 12; k++) {
                boolean isGroup = k >= 1 && k <= groups;
                int from = isGroup ? k : k == 0 ? 1 : -1;
                int to = isGroup ? k + 1 : k == 0 ? groups + 1 : -1;
                Check.is("from(" + k + ") of " + groups + " groups", from, runner.from(k));
                Check.is("to(" + k + ") of " + groups + " groups", to, runner.to(k));
            }
            for (int k : FAR) {
                Check.is("from(" + k + ")", -1, runner.from(k));
                Check.is("to(" + k + ")", -1, runner.to(k));
            }
        }
        Check.finds("(a)|(b)|(c)|(d)|(e)|(f)|(g)|(h)|(i)", 0, "i",
            "0-1 1:none 2:none 3:none 4:none 5:none 6:none 7:none 8:none 9:0-1");
        Check.finds("a()(b)?", 0, "a", "0-1 1:1-1 2:none");
        PatternRunner fewer = Check.ready("(a)(b)", 0, "ab");
        fewer.find();
        Check.pattern(fewer, "(a)", 0);
        fewer.find();
        Check.is("from(2) of a pattern with one group", -1, fewer.from(2));
        Check.is("to(2) of a pattern with one group", -1, fewer.to(2));
    }

    private static void lastsFor512Calls() {
        Check.sentence("An object is used for at most 512 calls after it has been made");
        PatternRunner finder = new PatternRunner();
        finder.type(Check.packed("a*a*b|a{"), 8);
        finder.type(Check.packed("9}a{5}b"), 7);
        finder.pattern(Check.STICKY);
        finder.type(Check.packed("aaaaaaaa"), 8);
        finder.type(Check.packed("aaaaaaaa"), 8);
        finder.type(Check.packed("aaaa"), 4);
        finder.text();
        finder.start(0);
        for (int call = 9; call <= 512; call += 2) {
            Check.is("find() as call " + call, -1, finder.find());
            Check.is("steps() as call " + (call + 1), 500, finder.steps());
        }
        PatternRunner reader = new PatternRunner();
        for (int call = 1; call <= 512; call += 4) {
            Check.is("type() as call " + call, 8, reader.type(Check.packed("(a*)(b)|"), 8));
            Check.is("pattern() as call " + (call + 1), 2, reader.pattern(0));
            reader.type(Check.packed("xaab"), 4);
            Check.is("text() as call " + (call + 3), 4, reader.text());
        }
        PatternRunner writer = new PatternRunner();
        for (int call = 1; call <= 512; call += 4) {
            writer.type(Check.packed("$&ab$$"), 6);
            Check.is("replace() as call " + (call + 1), 1, writer.replace());
            Check.is("result(0) as call " + (call + 2), 'a', writer.result(0));
            Check.is("result(2) as call " + (call + 3), '$', writer.result(2));
        }
    }
}
