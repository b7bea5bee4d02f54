/** Promise 3: what is typed becomes the pattern, or is refused. */
public final class PatternTest {
    private static final Class<IllegalArgumentException> WRONG = IllegalArgumentException.class;

    public static void main(String[] args) {
        answersHowManyGroups();
        refusesWhatIsNoPattern();
        readsSets();
        refusesByReferencesAndGroups();
        refusesByNesting();
        refusesByWeight();
        refusesFlags();
        setsStateAnew();
        keepsAllWhenItRefuses();
        Check.end();
    }

    private static void reads(String pattern, int groups) {
        try {
            int got = Check.pattern(new PatternRunner(), pattern, 0);
            Check.is("groups of " + pattern, groups, got);
        } catch (IllegalArgumentException e) {
            Check.complain(pattern + " was refused, due is " + groups);
        }
    }

    private static void refuses(String... patterns) {
        for (String pattern : patterns) {
            PatternRunner runner = new PatternRunner();
            Check.type(runner, pattern);
            for (int flags = 0; flags <= 4; flags += 4) {
                int with = flags;
                Check.refuses("pattern " + pattern, WRONG, () -> runner.pattern(with));
                Check.is("nothing is typed behind " + pattern, 0,
                    Check.typedBeforeOneMore(runner));
                runner.text();
                Check.type(runner, pattern);
            }
        }
    }

    private static void answersHowManyGroups() {
        reads("", 0);
        reads("|", 0);
        reads("||", 0);
        reads("()", 1);
        reads("(?:)", 0);
        reads("(?=)(?!)", 0);
        reads("(a)(?:(b)|(?=(c)))(?!(d))", 4);
        reads("(a)(b)(c)(d)(e)(f)(g)(h)(i)", 9);
        reads("^^$$", 0);
        reads("a*?b+?c??d{2}?e{2,}?f{2,3}?", 0);
        reads("a{0}b{0,0}c{9,9}", 0);
        reads("-/,:=!<>_~ \"#%&'@`;", 0);
        reads("\\^\\$\\\\\\.\\*\\+\\?\\(\\)\\[\\]\\{\\}\\|\\/", 0);
        reads("\\d\\w\\s\\D\\W\\S", 0);
        reads("a|", 0);
        reads("a?:b?=c?!", 0);
        reads("(a:)(=)(!)", 3);
        reads("(a)\\10", 1);
        reads("(|)", 1);
    }

    private static void refusesWhatIsNoPattern() {
        refuses("*", "+", "?", "{2}", "{", "}", "]", ")", "a)", "(", "(a", "(?:a", "(?=a", "(?!a",
            "[", "[a", "[^", "[\\]", "\\", "a\\", "(?", "(?)", "(?a)", "(?<a)", "(?*a)", "()?:)",
            "a**", "a+*", "a?*", "a???", "a{2}{3}", "a{2}*", "a*{2}", "a{2}??", "^*", "$+", "^?",
            "${2}", "(?=a)*", "(?!a)?", "(?=a){2}", "|*", "(*a)", "(|*)", "a|+",
            "a{", "a{2", "a{2,", "a{2,3", "a{}", "a{,}", "a{,3}", "a{12}", "a{1,12}", "a{ 2}",
            "a{2 }", "a{2,3,4}", "a{b}", "a{-1}", "a}", "a{3,2}", "a{1,0}", "a{9,8}?");
        for (char sign = 32; sign <= 126; sign++) {
            boolean fine = "^$\\.*+?()[]{}|/dwsDWS".indexOf(sign) >= 0;
            if (fine) {
                reads("\\" + sign, 0);
            } else {
                refuses("\\" + sign);
            }
            if (fine || sign == '-') {
                reads("[\\" + sign + "]", 0);
            } else {
                refuses("[\\" + sign + "]");
            }
            if ("\\*+?()[]{}|".indexOf(sign) >= 0 && sign != '|') {
                refuses(String.valueOf(sign));
            } else {
                reads(String.valueOf(sign), 0);
            }
            if (sign != '\\' && sign != ']') {
                reads("[" + sign + "]", 0);
            }
        }
    }

    private static void readsSets() {
        reads("[]", 0);
        reads("[^]", 0);
        reads("[^^]", 0);
        reads("[-]", 0);
        reads("[--]", 0);
        reads("[---]", 0);
        reads("[a-]", 0);
        reads("[^-a]", 0);
        reads("[a-a]", 0);
        reads("[ -~]", 0);
        reads("[\\d-]", 0);
        reads("[-\\d]", 0);
        reads("[a-c-\\d]", 0);
        reads("[a-c-a]", 0);
        reads("[--a]", 0);
        reads("[+--]", 0);
        reads("[\\--a]", 0);
        reads("[!-\\-]", 0);
        reads("[(-\\)]", 0);
        reads("[*+?(){}|.$^[]", 0);
        refuses("[b-a]", "[a-\\d]", "[\\d-a]", "[\\w-\\d]", "[\\d--]", "[a--]", "[z-a-c]", "[a-",
            "[a-\\", "[a-\\q]", "[\\q-a]", "[\\-", "[a-c-", "[]-a]", "[a-\\S-]", "[a-c---+]",
            "[a-Z]", "[\\]-A]", "[^b-a]", "[\\1]", "[\\0]", "[0-9-z-a]");
        reads("[a-c---a]", 0);
        reads("[0-9-a-z]", 0);
    }

    private static void refusesByReferencesAndGroups() {
        refuses("\\1", "(a)\\2", "\\2(a)", "(?:a)\\1", "(?=a)\\1", "\\0", "(a)\\0",
            "(a)(b)(c)(d)(e)(f)(g)(h)\\9", "()()()()()()()()()()",
            "(a)(b)(c)(d)(e)(f)(g)(h)(i)(j)");
        reads("(a)\\1", 1);
        reads("\\1(a)", 1);
        reads("(a\\1)", 1);
        reads("(?!(a))\\1", 1);
        reads("(a)(b)(c)(d)(e)(f)(g)(h)(i)\\9", 9);
    }

    private static void refusesByNesting() {
        reads("((((((((a))))))))", 8);
        reads("(?:(?:(?:(?:(?:(?:(?:(?:a))))))))", 0);
        reads("(?=(?!(?:((?=(?!(?:())))))))", 2);
        reads("((((((((a))))))))(a)", 9);
        refuses("(((((((((a)))))))))");
        refuses("(?:((((((((a)))))))))");
        refuses("(?=((((((((a)))))))))");
        refuses("((((((((?!(a)))))))))", "((((((((?!(?:a)))))))))");
        refuses("(?:(?:(?:(?:(?:(?:(?:(?:(?:a)))))))))");
    }

    // Each of these weighs 120 (or 119), and one more sign or "|" is too much.
    private static void refusesByWeight() {
        reads("((a{9}){3}){3}", 2);
        reads("((a{9}){3}){3}b", 2);
        refuses("((a{9}){3}){3}bb", "((a{9}){3}){3}b|", "((a{9}){3}){3}^$", "((a{9}){3}){3}b$");
        reads("((a{9}){3}){3}|", 2);
        refuses("((a{9}){3}){3}||", "((a{9}){3}){3}()b", "((a{9}){3}){3}(?:)b");
        reads("((a{9}){3}){3}()", 3);
        reads("((a{9}){3}){3}(?:)", 2);
        reads("((a{9}){3}){3}(?=)", 2);
        refuses("((a{9}){3}){3}(?=a)", "((a{9}){3}){3}(?!)^", "((a{9}){3}){3}a?");
        reads("(?:a{9}){9}", 0);
        reads("(?:a{9}){9}aaaaaaaaaa", 0);
        refuses("(?:a{9}){9}aaaaaaaaaaa");
        refuses("(?:a{9}){9}aaaaaaaaa*");
        reads("(?:a{9}){9}aaaaaaaa*", 0);
        reads("(?:a{9}){9}aaaaaaa+", 0);
        refuses("(?:a{9}){9}aaaaaaaa+");
        reads("(?:a{9}){9}aaaaaaaa?", 0);
        refuses("(?:a{9}){9}aaaaaaaaa?");
        reads("(?:a{9}){9}aaaaaaaa{0}", 0);
        refuses("(?:a{9}){9}aaaaaaaaa{0}");
        reads("(?:a{9}){9}aaaa{4,}", 0);
        refuses("(?:a{9}){9}aaaaa{4,}");
        reads("(?:a{9}){9}a{0,8}", 0);
        refuses("(?:a{9}){9}a{0,9}");
        reads("(?:a{9}){9}\\d\\/.[^a]^$\\1()|", 1);
        refuses("(?:a{9}){9}\\d\\/.[^a]^$\\1()|aa");
        refuses("(?:(?:(?:(?:(?:(?:a{9}){9}){9}){9}){9})");
        refuses("((((((((a{9}){9}){9}){9}){9}){9}){9}");
        refuses("(((((((a{9}){9}){9}){9}){9}){9}){9})");
        refuses("((?:|){9}){9}a");
        reads("(()|(?:a|b)){9}", 2);
    }

    private static void refusesFlags() {
        PatternRunner runner = Check.ready("b", 0, "ab");
        runner.find();
        Check.type(runner, "a");
        int[] wrong = {-1, 8, 9, 16, Integer.MAX_VALUE, Integer.MIN_VALUE};
        for (int flags : wrong) {
            Check.refuses("pattern(" + flags + ")", WRONG, () -> runner.pattern(flags));
        }
        Check.is("what was found stays", 1, runner.from(0));
        Check.is("what is typed stays", 1, Check.typedBeforeOneMore(runner));
        Check.is("START stays, the pattern too", -1, runner.find());
        runner.text();
        Check.type(runner, "*");
        Check.refuses("wrong flags and no pattern", WRONG, () -> runner.pattern(8));
        Check.is("what is typed stays", 1, Check.typedBeforeOneMore(runner));
        for (int flags = 0; flags <= 7; flags++) {
            Check.is("pattern(" + flags + ")", 1,
                Check.pattern(new PatternRunner(), "(a)", flags));
        }
    }

    private static void setsStateAnew() {
        PatternRunner runner = Check.ready("(a)", 0, "aab");
        runner.find();
        runner.find();
        Check.is("pattern", 0, Check.pattern(runner, "a", 0));
        Check.is("nothing was found then", -1, runner.from(0));
        Check.is("nothing was found then", -1, runner.to(1));
        Check.is("nothing is typed then", 0, Check.typedBeforeOneMore(runner));
        Check.is("START is 0, the text as before", 0, runner.find());
        runner.text();
        Check.text(runner, "AB");
        Check.pattern(runner, "b", 4);
        Check.is("the flags are these", 1, runner.find());
        Check.pattern(runner, "b", 0);
        Check.is("the flags are new ones", -1, runner.find());
    }

    private static void keepsAllWhenItRefuses() {
        PatternRunner runner = Check.ready("(A)b?", 4, "aabab");
        runner.find();
        runner.find();
        Check.type(runner, "(x)(y");
        Check.refuses("not closed", WRONG, () -> runner.pattern(0));
        Check.is("what was found stays", 1, runner.from(0));
        Check.is("what was taken stays", 2, runner.to(1));
        Check.is("START, flags and pattern stay", 3, runner.find());
        Check.is("START, flags and pattern stay", 5, runner.to(0));
        Check.type(runner, "<$1$2>");
        Check.is("the groups stay", 3, runner.replace());
        Check.isText("the groups stay", "<a$2><a$2><a$2>", Check.result(runner));
    }
}
