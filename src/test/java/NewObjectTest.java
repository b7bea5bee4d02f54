import java.util.NoSuchElementException;

/** Promise 1: what a new object is like. */
public final class NewObjectTest {
    public static void main(String[] args) {
        PatternRunner fresh = new PatternRunner();
        for (int k = -1; k <= 10; k++) {
            Check.is("from(" + k + ")", -1, fresh.from(k));
            Check.is("to(" + k + ")", -1, fresh.to(k));
        }
        Check.is("steps()", 0, fresh.steps());
        Check.refuses("result(0)", NoSuchElementException.class, () -> fresh.result(0));
        Check.is("find() of the empty pattern", 0, fresh.find());
        Check.is("to(0)", 0, fresh.to(0));
        Check.is("steps()", 1, fresh.steps());

        Check.is("nothing is typed", 0, Check.typedBeforeOneMore(new PatternRunner()));

        PatternRunner emptyText = new PatternRunner();
        Check.pattern(emptyText, "^$", 0);
        Check.is("find() in the empty text", 0, emptyText.find());

        PatternRunner noFlags = new PatternRunner();
        Check.text(noFlags, "ab");
        noFlags.start(1);
        Check.is("the empty pattern is found at START", 1, noFlags.find());
        Check.is("replace() with the empty pattern", 3, Check.replace(noFlags, "-"));
        Check.isText("the result", "-a-b-", Check.result(noFlags));

        PatternRunner one = new PatternRunner();
        PatternRunner other = new PatternRunner();
        Check.pattern(one, "b", 0);
        Check.text(one, "ab");
        Check.is("two objects share nothing", 0, other.find());
        Check.is("two objects share nothing", 1, one.find());
        Check.end();
    }
}
