/** The boundaries of what steps are, and of the 500 that a find() may make. */
public final class BoundaryStepTest {
    private static final int STICKY = Check.STICKY;
    private static final String TWENTY = "a".repeat(20);
    // At the first place of TWENTY this makes 484 steps in vain: 22 times 22.
    private static final String IN_VAIN = "a*a*b";

    public static void main(String[] args) {
        countsAtoms();
        countsReferences();
        countsAlternatives();
        countsNothingElse();
        countsEachTime();
        makesFiveHundred();
        makesFiveHundredInVain();
        makesFiveHundredOverPlaces();
        makesFiveHundredInEachFind();
        isNoneBefore();
        Check.end();
    }

    private static void countsAtoms() {
        Check.sentence("each time that such an atom of one sign is come to");
        String[] atoms = {"a", ".", "\\w", "\\D", "[a]", "[^]", "[^b]", "[ -~]"};
        for (String atom : atoms) {
            Check.steps(atom, STICKY, "a", 2);
            Check.steps(atom, STICKY, "", 2);
            Check.steps(atom + atom, STICKY, "a", 3);
            Check.steps(atom + atom, STICKY, "aa", 3);
        }
        Check.steps("b", STICKY, "a", 2);
        Check.steps("[]", STICKY, "a", 2);
        Check.steps("ba", STICKY, "aa", 2);
    }

    private static void countsReferences() {
        Check.sentence("each time that a reference is come to");
        Check.steps("\\1()", STICKY, "", 3);
        Check.steps("()\\1", STICKY, "", 3);
        Check.steps("(aa)\\1", STICKY, "aaaa", 5);
        Check.steps("(aa)\\1", STICKY, "aaa", 5);
        Check.steps("(aa)\\1", STICKY, "aa", 5);
        Check.steps("(a)\\1\\1", STICKY, "aaa", 5);
        Check.steps("(a)\\1*", STICKY, "aaa", 6);
    }

    private static void countsAlternatives() {
        Check.sentence("each time that an alternative (also an only one, and those of the whole "
            + "pattern) is begun");
        Check.steps("", STICKY, "", 1);
        Check.steps("|", STICKY, "", 1);
        Check.steps("b|", STICKY, "", 3);
        Check.steps("b|b|b", STICKY, "", 6);
        Check.steps("$|b", STICKY, "a", 3);
        String[] openings = {"(", "(?:", "(?="};
        for (String opening : openings) {
            Check.steps(opening + ")", STICKY, "", 2);
            Check.steps(opening + "|b)", STICKY, "", 2);
            Check.steps(opening + "b|)", STICKY, "", 4);
            Check.steps(opening + "b|c)", STICKY, "", 5);
            Check.steps(opening + "b|c)|", STICKY, "", 6);
        }
        Check.steps("(?!)", STICKY, "", 2);
        Check.steps("(?!b|c)", STICKY, "", 5);
        Check.steps("(?!b||c)", STICKY, "", 4);
        Check.steps("((((((((a))))))))", STICKY, "a", 10);
    }

    private static void countsNothingElse() {
        Check.sentence("STEPS are: each time that such an atom of one sign or a reference is come "
            + "to, and each time that an alternative is begun");
        Check.steps("^^$$^$", STICKY, "", 1);
        Check.steps("^", 0, "aaa", 1);
        Check.steps("$", 0, "aaa", 4);
        Check.steps("a{0}b{0}(c){0}\\1{0}", STICKY, "abc", 1);
        Check.steps("a??b*?(c)??", STICKY, "abc", 1);
        Check.steps("(?=$)", STICKY, "", 2);
    }

    private static void countsEachTime() {
        Check.sentence("STEPS are: each time that");
        Check.steps("a*", STICKY, "aaa", 5);
        Check.steps("a{3}", STICKY, "aaa", 4);
        Check.steps("a{2,3}", STICKY, "aaa", 4);
        Check.steps("(?:){9}", STICKY, "", 10);
        Check.steps("(?:)*", STICKY, "", 2);
        Check.steps("(?:a|b)*", STICKY, "ab", 11);
        Check.steps("(?=a*)a*", STICKY, "aa", 8);
        Check.steps("a*a", STICKY, "aa", 6);
        Check.steps("a*?b", STICKY, "aab", 6);
        Check.steps(IN_VAIN, STICKY, TWENTY, 484);
    }

    private static void makes(int due, String pattern, int flags, String text, String found) {
        Check.finds(pattern, flags, text, found);
        Check.steps(pattern, flags, text, due);
    }

    private static void makesTooMany(String pattern, int flags, String text) {
        PatternRunner runner = Check.ready(pattern, flags, text);
        for (int i = 0; i < 2; i++) {
            Check.refuses("find() of " + pattern + " in " + text,
                UnsupportedOperationException.class, runner::find);
            Check.is("steps() when find() threw", 0, runner.steps());
            Check.is("from(0) when find() threw", -1, runner.from(0));
        }
    }

    private static void makesFiveHundred() {
        Check.sentence("UnsupportedOperationException: it would make more than 500 steps");
        String begin = IN_VAIN + "|";
        makes(499, begin + "a".repeat(14), STICKY, TWENTY, "0-14");
        makes(500, begin + "a".repeat(15), STICKY, TWENTY, "0-15");
        makesTooMany(begin + "a".repeat(16), STICKY, TWENTY);
        makesTooMany(begin + "a".repeat(17), STICKY, TWENTY);
        makes(499, begin + "(a)" + "\\1".repeat(12), STICKY, TWENTY, "0-13 1:0-1");
        makes(500, begin + "(a)" + "\\1".repeat(13), STICKY, TWENTY, "0-14 1:0-1");
        makesTooMany(begin + "(a)" + "\\1".repeat(14), STICKY, TWENTY);
        makes(499, begin + "(?:){9}(?:){5}", STICKY, TWENTY, "0-0");
        makes(500, begin + "(?:){9}(?:){6}", STICKY, TWENTY, "0-0");
        makesTooMany(begin + "(?:){9}(?:){7}", STICKY, TWENTY);
        makes(500, begin + "(?=a{9}a{5})", STICKY, TWENTY, "0-0");
        makesTooMany(begin + "(?=a{9}a{6})", STICKY, TWENTY);
        makes(500, begin + "(?!a{9}a{4}b)", STICKY, TWENTY, "0-0");
        makesTooMany(begin + "(?!a{9}a{5}b)", STICKY, TWENTY);
    }

    private static void makesFiveHundredInVain() {
        Check.sentence("UnsupportedOperationException: it would make more than 500 steps");
        makes(500, IN_VAIN + "|a{9}a{5}b", STICKY, TWENTY, "none");
        makesTooMany(IN_VAIN + "|a{9}a{6}b", STICKY, TWENTY);
        makes(500, IN_VAIN + "|b|b|b|b|b|b|b|b", STICKY, TWENTY, "none");
        makesTooMany(IN_VAIN + "|b|b|b|b|b|b|b|b|", STICKY, TWENTY);
        makesTooMany("(a*)*b", 0, "a".repeat(24));
    }

    // In vain at the first 19 places, 475 steps are made.
    private static void makesFiveHundredOverPlaces() {
        Check.sentence("UnsupportedOperationException: it would make more than 500 steps");
        String text = "a".repeat(19) + "x";
        String begin = "a*b|x(?:){9}(?:){9}(?:)";
        makes(499, begin, 0, text, "19-20");
        makes(500, begin + "{2}", 0, text, "19-20");
        makesTooMany(begin + "{3}", 0, text);
        PatternRunner later = Check.ready(begin + "{3}", 0, text);
        later.start(1);
        Check.is("find() from 1 on", 19, later.find());
        Check.is("without the 43 steps at the place 0", 458, later.steps());
        makes(500, "a+?b|c|d", 0, "a".repeat(19), "none");
    }

    private static void makesFiveHundredInEachFind() {
        Check.sentence("UnsupportedOperationException: it would make more than 500 steps");
        PatternRunner runner = Check.ready(IN_VAIN + "|a{9}a{5}b", STICKY, TWENTY);
        for (int i = 0; i < 5; i++) {
            Check.is("find() once more", -1, runner.find());
            Check.is("steps() once more", 500, runner.steps());
        }
        runner.start(20);
        runner.find();
        Check.is("steps() at the end", 6, runner.steps());
    }

    private static void isNoneBefore() {
        Check.sentence("How many steps were made in the latest call of find() that did not throw "
            + "(0 before)");
        PatternRunner runner = new PatternRunner();
        Check.is("steps() of a new object", 0, runner.steps());
        Check.pattern(runner, IN_VAIN + "|a{9}a{6}b", STICKY);
        Check.text(runner, TWENTY);
        Check.is("steps() before a find()", 0, runner.steps());
        Check.refuses("the first find()", UnsupportedOperationException.class, runner::find);
        Check.is("steps() when the first find() threw", 0, runner.steps());
        runner.start(20);
        Check.is("steps() behind start()", 0, runner.steps());
        Check.is("find() at the end", -1, runner.find());
        Check.is("steps() of a find() in vain", 6, runner.steps());
        Check.refuses("find() from 0 on", UnsupportedOperationException.class, runner::find);
        Check.is("steps() when a later find() threw", 6, runner.steps());
        Check.refuses("replace()", UnsupportedOperationException.class, runner::replace);
        Check.is("steps() when replace() threw", 6, runner.steps());
        runner.start(21);
        Check.is("find() behind the end", -1, runner.find());
        Check.is("steps() of a find() behind the end", 0, runner.steps());
    }
}
