/** What the tests share: typing whole strings, comparing answers, and ending with an exit code. */
final class Check {
    static final int STICKY = 1;
    static final int LINES = 2;
    static final int ALIKE = 4;
    static final String SPECIAL = "^$\\.*+?()[]{}|";

    private static int made = 0;
    private static int wrong = 0;
    private static String sentence = "";

    interface Call {
        long answer();
    }

    private Check() {
    }

    /** The words of the document that the checks behind this are about; told with what is wrong. */
    static void sentence(String words) {
        sentence = words;
    }

    static void is(String what, long due, long got) {
        made++;
        if (got != due) {
            complain(what + " answered " + got + ", due is " + due);
        }
    }

    static void isText(String what, String due, String got) {
        made++;
        if (!got.equals(due)) {
            complain(what + " answered \"" + got + "\", due is \"" + due + "\"");
        }
    }

    static void isTrue(String what, boolean holds) {
        made++;
        if (!holds) {
            complain(what + " does not hold");
        }
    }

    static void refuses(String what, Class<? extends RuntimeException> due, Call call) {
        made++;
        try {
            complain(what + " answered " + call.answer() + ", due is " + due.getSimpleName());
        } catch (RuntimeException e) {
            if (e.getClass() != due) {
                complain(what + " threw " + e + ", due is " + due.getSimpleName());
            }
        }
    }

    static void complain(String text) {
        wrong++;
        System.out.println(sentence.isEmpty() ? text : text + " [" + sentence + "]");
    }

    static void end() {
        System.out.println(made + " answers looked at, " + wrong + " wrong");
        if (wrong != 0) {
            System.exit(1);
        }
    }

    static long packed(String signs) {
        long packed = 0;
        for (int i = signs.length() - 1; i >= 0; i--) {
            packed = packed << 8 | signs.charAt(i);
        }
        return packed;
    }

    static void type(PatternRunner runner, String signs) {
        for (int i = 0; i < signs.length(); i += 8) {
            String part = signs.substring(i, Math.min(signs.length(), i + 8));
            runner.type(packed(part), part.length());
        }
    }

    static int pattern(PatternRunner runner, String signs, int flags) {
        type(runner, signs);
        return runner.pattern(flags);
    }

    static int text(PatternRunner runner, String signs) {
        type(runner, signs);
        return runner.text();
    }

    static int replace(PatternRunner runner, String template) {
        type(runner, template);
        return runner.replace();
    }

    static PatternRunner ready(String pattern, int flags, String text) {
        PatternRunner runner = new PatternRunner();
        pattern(runner, pattern, flags);
        text(runner, text);
        return runner;
    }

    static String result(PatternRunner runner) {
        StringBuilder all = new StringBuilder();
        for (int i = 0; i <= 200; i++) {
            try {
                all.append(runner.result(i));
            } catch (java.util.NoSuchElementException e) {
                return all.toString();
            }
        }
        return all.toString();
    }

    static void reads(String pattern, int groups) {
        try {
            is("groups of " + pattern, groups, pattern(new PatternRunner(), pattern, 0));
        } catch (IllegalArgumentException e) {
            complain(pattern + " was refused, due is " + groups);
        }
    }

    /** A pattern is refused whatever the flags are, and is no longer typed then. */
    static void refusesPatterns(String... patterns) {
        for (String pattern : patterns) {
            PatternRunner runner = new PatternRunner();
            for (int flags = 0; flags <= 7; flags++) {
                int with = flags;
                type(runner, pattern);
                refuses("pattern " + pattern, IllegalArgumentException.class,
                    () -> runner.pattern(with));
                is("text() behind the refused " + pattern, 0, runner.text());
            }
        }
    }

    static void readsOrRefuses(boolean isRead, String pattern, int groups) {
        if (isRead) {
            reads(pattern, groups);
        } else {
            refusesPatterns(pattern);
        }
    }

    static void finds(String pattern, int flags, String text, String due) {
        isText("find() of " + pattern + " with " + flags + " in " + text, due,
            found(pattern, flags, text));
    }

    static void steps(String pattern, int flags, String text, int due) {
        PatternRunner runner = ready(pattern, flags, text);
        runner.find();
        is("steps() of " + pattern + " with " + flags + " in " + text, due, runner.steps());
    }

    /** Compares what fits an atom of one sign with a list in order, for all signs. */
    static void fits(String atom, int flags, String due) {
        PatternRunner runner = new PatternRunner();
        pattern(runner, "^" + atom + "$", flags);
        StringBuilder got = new StringBuilder();
        for (char sign = 32; sign <= 126; sign++) {
            text(runner, String.valueOf(sign));
            if (runner.find() == 0 && runner.to(0) == 1) {
                got.append(sign);
            }
        }
        isText("what fits " + atom + " with " + flags, due, got.toString());
    }

    static String signs(char first, char last) {
        StringBuilder all = new StringBuilder();
        for (char sign = first; sign <= last; sign++) {
            all.append(sign);
        }
        return all.toString();
    }

    static String allBut(String some) {
        StringBuilder all = new StringBuilder();
        for (char sign = 32; sign <= 126; sign++) {
            if (some.indexOf(sign) < 0) {
                all.append(sign);
            }
        }
        return all.toString();
    }

    static void replaces(String pattern, int flags, String text, String template, int count,
            String due) {
        PatternRunner runner = ready(pattern, flags, text);
        String what = "replace() of " + pattern + " by " + template + " in " + text;
        is(what, count, replace(runner, template));
        isText(what, due, result(runner));
    }

    /** How many signs are typed, told by typing one more; the object has one more then, or 40. */
    static int typedBeforeOneMore(PatternRunner runner) {
        try {
            return runner.type('t', 1) - 1;
        } catch (IllegalArgumentException e) {
            return 40;
        }
    }

    /**
     * What find() tells on a new object: the place where it was found, where that ends, and what
     * the groups took, as "0-3 1:0-2 2:none", or "none".
     */
    static String found(String pattern, int flags, String text) {
        PatternRunner runner = new PatternRunner();
        int groups = pattern(runner, pattern, flags);
        text(runner, text);
        return found(runner, groups);
    }

    static String found(PatternRunner runner, int groups) {
        int where = runner.find();
        if (where < 0) {
            return "none";
        }
        StringBuilder all = new StringBuilder();
        all.append(where).append('-').append(runner.to(0));
        if (runner.from(0) != where) {
            all.append(" (but from(0) is ").append(runner.from(0)).append(')');
        }
        for (int k = 1; k <= groups; k++) {
            all.append(' ').append(k).append(':');
            if (runner.from(k) < 0 && runner.to(k) < 0) {
                all.append("none");
            } else {
                all.append(runner.from(k)).append('-').append(runner.to(k));
            }
        }
        return all.toString();
    }
}
