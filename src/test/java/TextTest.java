/** Promise 4: what is typed becomes the text. */
public final class TextTest {
    public static void main(String[] args) {
        PatternRunner runner = Check.ready("b+", 0, "abb");
        Check.is("the text is that", 1, runner.find());
        Check.is("text() of five signs", 5, Check.text(runner, "bcabc"));
        Check.is("nothing was found then", -1, runner.from(0));
        Check.is("nothing was found then", -1, runner.to(0));
        Check.is("START is 0, the pattern is as before", 0, runner.find());
        Check.is("nothing is typed then", 0, Check.typedBeforeOneMore(runner));
        runner.text();
        Check.is("text() of nothing", 0, runner.text());
        Check.is("find() in the empty text", -1, runner.find());

        PatternRunner full = Check.ready("x$", 0, "");
        Check.is("24 signs", 24, Check.text(full, "aaaaaaaaaaaaaaaaaaaaaaax"));
        Check.is("all 24 are there", 23, full.find());
        full.start(7);
        Check.type(full, "aaaaaaaaaaaaaaaaaaaaaaaay");
        Check.refuses("25 signs", IllegalStateException.class, full::text);
        Check.refuses("25 signs again", IllegalStateException.class, full::text);
        Check.is("what was found stays", 23, full.from(0));
        Check.is("what is typed stays", 25, Check.typedBeforeOneMore(full));
        Check.is("text and START stay", 23, full.find());

        PatternRunner forty = Check.ready("", 0, "ab");
        Check.type(forty, "0123456789012345678901234567890123456789");
        Check.refuses("40 signs", IllegalStateException.class, forty::text);
        forty.start(1);
        Check.is("START is not set back by what throws", 1, forty.find());

        PatternRunner shorter = Check.ready("b", 0, "aab");
        Check.text(shorter, "a");
        Check.is("a shorter text has nothing of the old one", -1, shorter.find());
        Check.end();
    }
}
