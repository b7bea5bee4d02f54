/** Promise 5: START. */
public final class StartTest {
    private static final Class<IllegalArgumentException> WRONG = IllegalArgumentException.class;

    public static void main(String[] args) {
        PatternRunner runner = Check.ready("a", 0, "abaaba");
        for (int place = 0; place <= 24; place++) {
            Check.is("start(" + place + ")", place, runner.start(place));
        }
        int[] wrong = {-1, 25, 26, Integer.MAX_VALUE, Integer.MIN_VALUE};
        for (int place : wrong) {
            runner.start(1);
            Check.refuses("start(" + place + ")", WRONG, () -> runner.start(place));
            Check.is("START stays 1", 2, runner.find());
        }
        runner.start(3);
        Check.is("what was found stays", 2, runner.from(0));
        Check.is("find() from 3 on", 3, runner.find());
        Check.is("and on", 5, runner.find());
        runner.start(0);
        Check.is("back to 0", 0, runner.find());
        runner.start(6);
        Check.is("START at the end, nothing there", -1, runner.find());
        Check.is("START is 0 then", 0, runner.find());

        PatternRunner empty = Check.ready("", 0, "abc");
        empty.start(3);
        Check.is("START at the end, the empty text there", 3, empty.find());
        empty.start(4);
        Check.is("START behind the end", -1, empty.find());
        Check.is("START is 0 then", 0, empty.find());
        Check.end();
    }
}
