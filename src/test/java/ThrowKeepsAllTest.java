import java.util.NoSuchElementException;

/**
 * "A call that throws changes nothing (but for what is typed, in a pattern() that is refused)."
 * Two objects are brought to the same state; one of them makes the call that throws, and then
 * both have to answer alike.
 */
public final class ThrowKeepsAllTest {
    private static final Class<IllegalArgumentException> WRONG = IllegalArgumentException.class;
    private static final Class<IllegalStateException> STATE = IllegalStateException.class;
    private static final Class<UnsupportedOperationException> TOO_MUCH =
        UnsupportedOperationException.class;
    private static final Class<NoSuchElementException> NONE = NoSuchElementException.class;

    private interface Change {
        void on(PatternRunner runner);
    }

    private interface Wrong {
        long answer(PatternRunner runner);
    }

    /** States in which something is found, taken, started, counted and written. */
    private static final Change[] STATES = {
        runner -> { },
        runner -> foundSome(runner, 2),
        runner -> foundSome(runner, 5),
        runner -> {
            foundSome(runner, 3);
            runner.start(3);
        },
        runner -> {
            foundSome(runner, 4);
            runner.start(24);
        },
        runner -> {
            foundSome(runner, 1);
            Check.replace(runner, "$2$1");
            runner.find();
        },
        runner -> {
            foundSome(runner, 1);
            runner.find();
            Check.pattern(runner, "(B)|/$", Check.STICKY + Check.LINES + Check.ALIKE);
            runner.start(1);
            runner.find();
        },
    };

    public static void main(String[] args) {
        keepsAllInType();
        keepsAllWithWrongFlags();
        keepsAllButTypedWhenRefused();
        keepsAllInText();
        keepsAllInStart();
        keepsAllInFind();
        keepsAllInReplaceThatFinds();
        keepsAllInReplaceThatWrites();
        keepsAllInResult();
        Check.end();
    }

    private static void foundSome(PatternRunner runner, int finds) {
        Check.text(runner, "abAB/xab");
        Check.pattern(runner, "(A)(b)|(x)", Check.ALIKE);
        Check.replace(runner, "[$1$&]");
        for (int i = 0; i < finds; i++) {
            runner.find();
        }
    }

    /** Makes the wrong call in each state, with these signs typed before. */
    private static void keepsAll(String what, Class<? extends RuntimeException> due, String typed,
            Wrong call) {
        for (int i = 0; i < STATES.length; i++) {
            Change state = STATES[i];
            keepsAllIn(what + " in state " + i, due, call, runner -> {
                state.on(runner);
                Check.type(runner, typed);
            });
        }
    }

    private static void keepsAllIn(String what, Class<? extends RuntimeException> due, Wrong call,
            Change state) {
        PatternRunner one = new PatternRunner();
        PatternRunner other = new PatternRunner();
        state.on(one);
        state.on(other);
        Check.refuses(what, due, () -> call.answer(one));
        Check.refuses(what + " once more", due, () -> call.answer(one));
        Check.isText("after " + what, told(other), told(one));
    }

    /** All that an object answers, from what can be seen at once to what calls bring to light. */
    private static String told(PatternRunner runner) {
        StringBuilder all = new StringBuilder();
        tellSeen(runner, all);
        tell(all, "typed", Check.typedBeforeOneMore(runner));
        for (int i = 0; i < 3; i++) {
            tell(all, "find", answer(runner::find));
            tellSeen(runner, all);
        }
        tell(all, "replace", answer(runner::replace));
        all.append(Check.result(runner));
        tell(all, "start", runner.start(0));
        tell(all, "find", answer(runner::find));
        tellSeen(runner, all);
        tell(all, "text", answer(runner::text));
        return all.toString();
    }

    private static void tellSeen(PatternRunner runner, StringBuilder all) {
        for (int k = 0; k <= 4; k++) {
            tell(all, "from" + k, runner.from(k));
            tell(all, "to" + k, runner.to(k));
        }
        tell(all, "steps", runner.steps());
        for (int i = 0; i < 20; i++) {
            int place = i;
            tell(all, "result" + i, answer(() -> runner.result(place)));
        }
    }

    private static void tell(StringBuilder all, String what, long answer) {
        all.append(what).append(' ').append(answer).append(", ");
    }

    private static long answer(Check.Call call) {
        try {
            return call.answer();
        } catch (IllegalArgumentException | IllegalStateException e) {
            return -1001;
        } catch (UnsupportedOperationException e) {
            return -1002;
        } catch (NoSuchElementException e) {
            return -1003;
        }
    }

    private static void keepsAllInType() {
        long signs = Check.packed("abcdefgh");
        for (String typed : new String[] {"", "b", "$2$1", "$&".repeat(20)}) {
            keepsAll("type() of none", WRONG, typed, runner -> runner.type(signs, 0));
            keepsAll("type() of nine", WRONG, typed, runner -> runner.type(signs, 9));
            keepsAll("type() of less than none", WRONG, typed, runner -> runner.type(signs, -1));
            keepsAll("type() of what is no sign", WRONG, typed,
                runner -> runner.type(Check.packed("abcdefg\177"), 8));
            keepsAll("type() of what is no sign", WRONG, typed,
                runner -> runner.type(Check.packed("\37bc"), 3));
        }
        keepsAll("type() of a 41st", WRONG, "-".repeat(40), runner -> runner.type(signs, 1));
        keepsAll("type() of a 41st", WRONG, "-".repeat(33), runner -> runner.type(signs, 8));
    }

    private static void keepsAllWithWrongFlags() {
        for (String typed : new String[] {"", "b", "(a", "()()", "$2$1"}) {
            keepsAll("pattern(-1)", WRONG, typed, runner -> runner.pattern(-1));
            keepsAll("pattern(8)", WRONG, typed, runner -> runner.pattern(8));
        }
    }

    private static void keepsAllButTypedWhenRefused() {
        String[] refused = {"*", "(", "a)", "(a)(b)(c)(d", "(a)\\2", "()()()()()()()()()()",
            "(((((((((a)))))))))", "a{3,2}", "[b-a]", "[a-\\d]", "((a{9}){9}){9}", "a**", "b|(?a)",
            "((a{9}){3}){3}bb", "(x)(y)(z)[", "\\"};
        for (String pattern : refused) {
            for (int flags = 0; flags <= 7; flags++) {
                int with = flags;
                keepsAll("pattern() of " + pattern, WRONG, "", runner -> {
                    Check.type(runner, pattern);
                    return runner.pattern(with);
                });
            }
        }
    }

    private static void keepsAllInText() {
        keepsAll("text() of 25", STATE, "-".repeat(25), PatternRunner::text);
        keepsAll("text() of 40", STATE, "$1".repeat(20), PatternRunner::text);
    }

    private static void keepsAllInStart() {
        for (String typed : new String[] {"", "b", "$2$1"}) {
            keepsAll("start(-1)", WRONG, typed, runner -> runner.start(-1));
            keepsAll("start(25)", WRONG, typed, runner -> runner.start(25));
        }
    }

    // From the place 3 on there is too much to be tried; from 0 on two are found before.
    private static void foundBeforeTooMuch(PatternRunner runner) {
        Check.text(runner, "xyx" + "a".repeat(20));
        Check.pattern(runner, "(x)(y)?|a*a*b|a{9}a{9}b", Check.STICKY);
    }

    private static void keepsAllInFind() {
        for (String typed : new String[] {"", "b", "$2$1"}) {
            keepsAllIn("find() at first", TOO_MUCH, PatternRunner::find, runner -> {
                foundBeforeTooMuch(runner);
                runner.start(3);
                Check.type(runner, typed);
            });
            keepsAllIn("find() behind others", TOO_MUCH, PatternRunner::find, runner -> {
                foundSome(runner, 1);
                foundBeforeTooMuch(runner);
                runner.find();
                runner.find();
                Check.type(runner, typed);
            });
            keepsAllIn("find() behind start()", TOO_MUCH, PatternRunner::find, runner -> {
                foundBeforeTooMuch(runner);
                runner.find();
                runner.start(3);
                Check.type(runner, typed);
            });
        }
    }

    private static void keepsAllInReplaceThatFinds() {
        for (String typed : new String[] {"", "b", "$2$1", "$&".repeat(20)}) {
            keepsAllIn("replace() at first", TOO_MUCH, PatternRunner::replace, runner -> {
                foundBeforeTooMuch(runner);
                Check.type(runner, typed);
            });
            keepsAllIn("replace() behind find()", TOO_MUCH, PatternRunner::replace, runner -> {
                foundSome(runner, 2);
                foundBeforeTooMuch(runner);
                runner.find();
                Check.type(runner, typed);
            });
            keepsAllIn("replace() behind start()", TOO_MUCH, PatternRunner::replace, runner -> {
                foundSome(runner, 2);
                foundBeforeTooMuch(runner);
                runner.find();
                runner.start(2);
                Check.type(runner, typed);
            });
        }
    }

    private static void keepsAllInReplaceThatWrites() {
        String template = "$1$2$&-----------------";
        for (int finds = 0; finds <= 4; finds++) {
            int times = finds;
            keepsAllIn("replace() of too much", TOO_MUCH, PatternRunner::replace, runner -> {
                foundSome(runner, 1);
                Check.pattern(runner, "(A)|(b)|.", Check.ALIKE);
                Check.text(runner, "abAB/xababab");
                for (int i = 0; i < times; i++) {
                    runner.find();
                }
                Check.type(runner, template);
            });
        }
    }

    private static void keepsAllInResult() {
        for (String typed : new String[] {"", "b", "$2$1"}) {
            keepsAll("result(-1)", NONE, typed, runner -> runner.result(-1));
            keepsAll("result(200)", NONE, typed, runner -> runner.result(200));
        }
    }
}
