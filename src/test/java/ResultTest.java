import java.util.NoSuchElementException;

/** Promise 11: the signs of the result. */
public final class ResultTest {
    private static final Class<NoSuchElementException> NONE = NoSuchElementException.class;

    public static void main(String[] args) {
        PatternRunner runner = Check.ready("b", 0, "abc");
        Check.refuses("result(0) before replace()", NONE, () -> runner.result(0));
        Check.is("replace()", 1, Check.replace(runner, "xyz"));
        String due = "axyzc";
        for (int i = 0; i < due.length(); i++) {
            Check.is("result(" + i + ")", due.charAt(i), runner.result(i));
        }
        int[] wrong = {-1, 5, 6, 199, 200, 201, Integer.MAX_VALUE, Integer.MIN_VALUE};
        for (int place : wrong) {
            Check.refuses("result(" + place + ")", NONE, () -> runner.result(place));
        }

        Check.text(runner, "q");
        Check.pattern(runner, "z", 0);
        runner.find();
        Check.isText("the result stays with a new text and pattern", due, Check.result(runner));

        Check.is("replace() with nothing found", 0, Check.replace(runner, "xyz"));
        Check.isText("a shorter result has nothing of the old one", "q", Check.result(runner));

        Check.text(runner, "bbbbbbbbbb");
        Check.pattern(runner, "b", 0);
        Check.type(runner, "123456789012345678901");
        Check.refuses("replace() to 210", UnsupportedOperationException.class, runner::replace);
        Check.isText("the result stays when replace() throws", "q", Check.result(runner));
        runner.text();

        Check.text(runner, "");
        Check.is("replace() to nothing", 0, runner.replace());
        Check.refuses("result(0) of the empty result", NONE, () -> runner.result(0));
        Check.end();
    }
}
