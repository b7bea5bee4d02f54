/** What the tests share: typing whole strings, comparing answers, and ending with an exit code. */
final class Check {
    private static int made = 0;
    private static int wrong = 0;

    interface Call {
        long answer();
    }

    private Check() {
    }

    static void is(String what, long due, long got) {
        made++;
        if (got != due) {
            complain(what + " answered " + got + ", due is " + due);
        }
    }

    static void isText(String what, String due, String got) {
        made++;
        if (!got.equals(due)) {
            complain(what + " answered \"" + got + "\", due is \"" + due + "\"");
        }
    }

    static void isTrue(String what, boolean holds) {
        made++;
        if (!holds) {
            complain(what + " does not hold");
        }
    }

    static void refuses(String what, Class<? extends RuntimeException> due, Call call) {
        made++;
        try {
            complain(what + " answered " + call.answer() + ", due is " + due.getSimpleName());
        } catch (RuntimeException e) {
            if (e.getClass() != due) {
                complain(what + " threw " + e + ", due is " + due.getSimpleName());
            }
        }
    }

    static void complain(String text) {
        wrong++;
        System.out.println(text);
    }

    static void end() {
        System.out.println(made + " answers looked at, " + wrong + " wrong");
        if (wrong != 0) {
            System.exit(1);
        }
    }

    static long packed(String signs) {
        long packed = 0;
        for (int i = signs.length() - 1; i >= 0; i--) {
            packed = packed << 8 | signs.charAt(i);
        }
        return packed;
    }

    static void type(PatternRunner runner, String signs) {
        for (int i = 0; i < signs.length(); i += 8) {
            String part = signs.substring(i, Math.min(signs.length(), i + 8));
            runner.type(packed(part), part.length());
        }
    }

    static int pattern(PatternRunner runner, String signs, int flags) {
        type(runner, signs);
        return runner.pattern(flags);
    }

    static int text(PatternRunner runner, String signs) {
        type(runner, signs);
        return runner.text();
    }

    static int replace(PatternRunner runner, String template) {
        type(runner, template);
        return runner.replace();
    }

    static PatternRunner ready(String pattern, int flags, String text) {
        PatternRunner runner = new PatternRunner();
        pattern(runner, pattern, flags);
        text(runner, text);
        return runner;
    }

    static String result(PatternRunner runner) {
        StringBuilder all = new StringBuilder();
        for (int i = 0; i <= 200; i++) {
            try {
                all.append(runner.result(i));
            } catch (java.util.NoSuchElementException e) {
                return all.toString();
            }
        }
        return all.toString();
    }

    /** How many signs are typed, told by typing one more; the object has one more then. */
    static int typedBeforeOneMore(PatternRunner runner) {
        return runner.type('t', 1) - 1;
    }

    /**
     * What find() tells on a new object: the place where it was found, where that ends, and what
     * the groups took, as "0-3 1:0-2 2:none", or "none".
     */
    static String found(String pattern, int flags, String text) {
        PatternRunner runner = new PatternRunner();
        int groups = pattern(runner, pattern, flags);
        text(runner, text);
        return found(runner, groups);
    }

    static String found(PatternRunner runner, int groups) {
        int where = runner.find();
        if (where < 0) {
            return "none";
        }
        StringBuilder all = new StringBuilder();
        all.append(where).append('-').append(runner.to(0));
        if (runner.from(0) != where) {
            all.append(" (but from(0) is ").append(runner.from(0)).append(')');
        }
        for (int k = 1; k <= groups; k++) {
            all.append(' ').append(k).append(':');
            if (runner.from(k) < 0 && runner.to(k) < 0) {
                all.append("none");
            } else {
                all.append(runner.from(k)).append('-').append(runner.to(k));
            }
        }
        return all.toString();
    }
}
