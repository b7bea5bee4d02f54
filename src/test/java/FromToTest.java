/** Promises 7 and 8: where what was found, and what groups took, begins and ends. */
public final class FromToTest {
    public static void main(String[] args) {
        PatternRunner runner = Check.ready("(b)(x)?(b*)(?:c)", 0, "abbbc");
        Check.is("find()", 1, runner.find());
        int[] from = {1, 1, -1, 2, -1, -1, -1, -1, -1, -1, -1, -1};
        int[] to = {5, 2, -1, 4, -1, -1, -1, -1, -1, -1, -1, -1};
        for (int k = 0; k < from.length; k++) {
            Check.is("from(" + k + ")", from[k], runner.from(k));
            Check.is("to(" + k + ")", to[k], runner.to(k));
        }
        int[] wrong = {-1, -2, 10, 20, 100, Integer.MAX_VALUE, Integer.MIN_VALUE};
        for (int k : wrong) {
            Check.is("from(" + k + ")", -1, runner.from(k));
            Check.is("to(" + k + ")", -1, runner.to(k));
        }
        Check.is("nothing behind it", -1, runner.find());
        for (int k = 0; k <= 4; k++) {
            Check.is("from(" + k + ") when nothing was found", -1, runner.from(k));
            Check.is("to(" + k + ") when nothing was found", -1, runner.to(k));
        }

        PatternRunner nine = Check.ready("(a)(b)(c)(d)(e)(f)(g)(h)(i)", 0, "abcdefghi");
        nine.find();
        for (int k = 1; k <= 9; k++) {
            Check.is("from(" + k + ") of nine", k - 1, nine.from(k));
            Check.is("to(" + k + ") of nine", k, nine.to(k));
        }

        PatternRunner empty = Check.ready("a()(b)?", 0, "ca");
        empty.find();
        Check.is("a group that took the empty text", 2, empty.from(1));
        Check.is("a group that took the empty text", 2, empty.to(1));
        Check.is("a group that took nothing", -1, empty.from(2));
        Check.is("a group that took nothing", -1, empty.to(2));

        PatternRunner kept = Check.ready("(a+)b|a", 0, "aabaaaaaaaaaaaaaaaaaaaaa");
        Check.is("find()", 0, kept.find());
        Check.refuses("a refused pattern", IllegalArgumentException.class,
            () -> Check.pattern(kept, "(", 0));
        Check.is("what was found stays", 3, kept.to(0));
        Check.is("what group 1 took stays", 2, kept.to(1));
        Check.pattern(kept, "(a+)b", 0);
        Check.is("a new pattern: nothing was found", -1, kept.from(0));
        Check.is("a new pattern: nothing was found", -1, kept.to(1));
        Check.end();
    }
}
