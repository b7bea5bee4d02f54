/** Promise 2: typing signs. */
public final class TypeTest {
    private static final Class<IllegalArgumentException> WRONG = IllegalArgumentException.class;

    public static void main(String[] args) {
        typesTheLowestFirst();
        refusesWrongNumbers();
        refusesWhatIsNoSign();
        refusesMoreThanForty();
        Check.end();
    }

    private static void typesTheLowestFirst() {
        PatternRunner runner = new PatternRunner();
        Check.is("type ab", 2, runner.type('b' << 8 | 'a', 2));
        Check.is("type c behind it", 3, runner.type('c', 1));
        Check.is("text()", 3, runner.text());
        Check.pattern(runner, "abc", 0);
        Check.is("find()", 0, runner.find());

        PatternRunner higher = new PatternRunner();
        Check.is("bytes above n do not count", 1, higher.type(0x0102030405060761L, 1));
        Check.is("all eight do", 9, higher.type(0x7E7E7E7E7E7E7E20L, 8));
        Check.is("text()", 9, higher.text());
        Check.pattern(higher, "^a ~{7}$", 0);
        Check.is("find()", 0, higher.find());
    }

    private static void refusesWrongNumbers() {
        PatternRunner runner = new PatternRunner();
        long signs = Check.packed("abcdefgh");
        int[] wrong = {0, 9, -1, 10, Integer.MAX_VALUE, Integer.MIN_VALUE};
        for (int n : wrong) {
            Check.refuses("type(.., " + n + ")", WRONG, () -> runner.type(signs, n));
        }
        int all = 0;
        for (int n = 1; n <= 8; n++) {
            all += n;
            Check.is("type(.., " + n + ")", all, runner.type(signs, n));
        }
    }

    private static void refusesWhatIsNoSign() {
        PatternRunner runner = new PatternRunner();
        for (int sign = 0; sign < 256; sign++) {
            long last = (long) sign << 16 | 'b' << 8 | 'a';
            if (sign >= 32 && sign <= 126) {
                Check.is("sign " + sign, 3, runner.type(last, 3));
                runner.text();
            } else {
                Check.refuses("sign " + sign, WRONG, () -> runner.type(last, 3));
            }
        }
        Check.refuses("the eighth byte is 255", WRONG, () -> runner.type(-1L << 56, 8));
        Check.refuses("a number below 0", WRONG, () -> runner.type(-1L, 1));
        Check.is("nothing of what was refused is typed", 0, Check.typedBeforeOneMore(runner));
    }

    private static void refusesMoreThanForty() {
        PatternRunner runner = new PatternRunner();
        long signs = Check.packed("abcdefgh");
        for (int i = 1; i <= 4; i++) {
            runner.type(signs, 8);
        }
        Check.is("39 signs", 39, runner.type(signs, 7));
        Check.refuses("41 signs", WRONG, () -> runner.type(signs, 2));
        Check.is("40 signs", 40, runner.type(signs, 1));
        Check.refuses("41 signs", WRONG, () -> runner.type(signs, 1));
        Check.refuses("48 signs", WRONG, () -> runner.type(signs, 8));
        Check.is("40 signs are a pattern", 0, runner.pattern(0));
        Check.is("then nothing is typed", 0, Check.typedBeforeOneMore(runner));
    }
}
