/** Promise 3: what is typed becomes the pattern, or is refused. */
public final class PatternTest {
    private static final Class<IllegalArgumentException> WRONG = IllegalArgumentException.class;

    public static void main(String[] args) {
        answersHowManyGroups();
        refusesWhatIsNoPattern();
        readsSets();
        refusesByReferencesAndGroups();
        refusesByNesting();
        refusesByWeight();
        refusesFlags();
        setsStateAnew();
        keepsAllWhenItRefuses();
        Check.end();
    }

    private static void answersHowManyGroups() {
        Check.reads("", 0);
        Check.reads("|", 0);
        Check.reads("||", 0);
        Check.reads("()", 1);
        Check.reads("(?:)", 0);
        Check.reads("(?=)(?!)", 0);
        Check.reads("(a)(?:(b)|(?=(c)))(?!(d))", 4);
        Check.reads("(a)(b)(c)(d)(e)(f)(g)(h)(i)", 9);
        Check.reads("^^$$", 0);
        Check.reads("a*?b+?c??d{2}?e{2,}?f{2,3}?", 0);
        Check.reads("a{0}b{0,0}c{9,9}", 0);
        Check.reads("-/,:=!<>_~ \"#%&'@`;", 0);
        Check.reads("\\^\\$\\\\\\.\\*\\+\\?\\(\\)\\[\\]\\{\\}\\|\\/", 0);
        Check.reads("\\d\\w\\s\\D\\W\\S", 0);
        Check.reads("a|", 0);
        Check.reads("a?:b?=c?!", 0);
        Check.reads("(a:)(=)(!)", 3);
        Check.reads("(a)\\10", 1);
        Check.reads("(|)", 1);
    }

    private static void refusesWhatIsNoPattern() {
        Check.refusesPatterns(
            "*", "+", "?", "{2}", "{", "}", "]", ")", "a)", "(", "(a", "(?:a", "(?=a", "(?!a",
            "[", "[a", "[^", "[\\]", "\\", "a\\", "(?", "(?)", "(?a)", "(?<a)", "(?*a)", "()?:)",
            "a**", "a+*", "a?*", "a???", "a{2}{3}", "a{2}*", "a*{2}", "a{2}??", "^*", "$+", "^?",
            "${2}", "(?=a)*", "(?!a)?", "(?=a){2}", "|*", "(*a)", "(|*)", "a|+",
            "a{", "a{2", "a{2,", "a{2,3", "a{}", "a{,}", "a{,3}", "a{12}", "a{1,12}", "a{ 2}",
            "a{2 }", "a{2,3,4}", "a{b}", "a{-1}", "a}", "a{3,2}", "a{1,0}", "a{9,8}?");
        for (char sign = 32; sign <= 126; sign++) {
            boolean fine = "^$\\.*+?()[]{}|/dwsDWS".indexOf(sign) >= 0;
            if (fine) {
                Check.reads("\\" + sign, 0);
            } else {
                Check.refusesPatterns("\\" + sign);
            }
            if (fine || sign == '-') {
                Check.reads("[\\" + sign + "]", 0);
            } else {
                Check.refusesPatterns("[\\" + sign + "]");
            }
            if ("\\*+?()[]{}|".indexOf(sign) >= 0 && sign != '|') {
                Check.refusesPatterns(String.valueOf(sign));
            } else {
                Check.reads(String.valueOf(sign), 0);
            }
            if (sign != '\\' && sign != ']') {
                Check.reads("[" + sign + "]", 0);
            }
        }
    }

    private static void readsSets() {
        Check.reads("[]", 0);
        Check.reads("[^]", 0);
        Check.reads("[^^]", 0);
        Check.reads("[-]", 0);
        Check.reads("[--]", 0);
        Check.reads("[---]", 0);
        Check.reads("[a-]", 0);
        Check.reads("[^-a]", 0);
        Check.reads("[a-a]", 0);
        Check.reads("[ -~]", 0);
        Check.reads("[\\d-]", 0);
        Check.reads("[-\\d]", 0);
        Check.reads("[a-c-\\d]", 0);
        Check.reads("[a-c-a]", 0);
        Check.reads("[--a]", 0);
        Check.reads("[+--]", 0);
        Check.reads("[\\--a]", 0);
        Check.reads("[!-\\-]", 0);
        Check.reads("[(-\\)]", 0);
        Check.reads("[*+?(){}|.$^[]", 0);
        Check.refusesPatterns(
            "[b-a]", "[a-\\d]", "[\\d-a]", "[\\w-\\d]", "[\\d--]", "[a--]", "[z-a-c]", "[a-",
            "[a-\\", "[a-\\q]", "[\\q-a]", "[\\-", "[a-c-", "[]-a]", "[a-\\S-]", "[a-c---+]",
            "[a-Z]", "[\\]-A]", "[^b-a]", "[\\1]", "[\\0]", "[0-9-z-a]");
        Check.reads("[a-c---a]", 0);
        Check.reads("[0-9-a-z]", 0);
    }

    private static void refusesByReferencesAndGroups() {
        Check.refusesPatterns("\\1", "(a)\\2", "\\2(a)", "(?:a)\\1", "(?=a)\\1", "\\0", "(a)\\0",
            "(a)(b)(c)(d)(e)(f)(g)(h)\\9", "()()()()()()()()()()",
            "(a)(b)(c)(d)(e)(f)(g)(h)(i)(j)");
        Check.reads("(a)\\1", 1);
        Check.reads("\\1(a)", 1);
        Check.reads("(a\\1)", 1);
        Check.reads("(?!(a))\\1", 1);
        Check.reads("(a)(b)(c)(d)(e)(f)(g)(h)(i)\\9", 9);
    }

    private static void refusesByNesting() {
        Check.reads("((((((((a))))))))", 8);
        Check.reads("(?:(?:(?:(?:(?:(?:(?:(?:a))))))))", 0);
        Check.reads("(?=(?!(?:((?=(?!(?:())))))))", 2);
        Check.reads("((((((((a))))))))(a)", 9);
        Check.refusesPatterns("(((((((((a)))))))))");
        Check.refusesPatterns("(?:((((((((a)))))))))");
        Check.refusesPatterns("(?=((((((((a)))))))))");
        Check.refusesPatterns("((((((((?!(a)))))))))", "((((((((?!(?:a)))))))))");
        Check.refusesPatterns("(?:(?:(?:(?:(?:(?:(?:(?:(?:a)))))))))");
    }

    // Each of these weighs 120 (or 119), and one more sign or "|" is too much.
    private static void refusesByWeight() {
        Check.reads("((a{9}){3}){3}", 2);
        Check.reads("((a{9}){3}){3}b", 2);
        Check.refusesPatterns("((a{9}){3}){3}bb", "((a{9}){3}){3}b|", "((a{9}){3}){3}^$",
            "((a{9}){3}){3}b$");
        Check.reads("((a{9}){3}){3}|", 2);
        Check.refusesPatterns("((a{9}){3}){3}||", "((a{9}){3}){3}()b", "((a{9}){3}){3}(?:)b");
        Check.reads("((a{9}){3}){3}()", 3);
        Check.reads("((a{9}){3}){3}(?:)", 2);
        Check.reads("((a{9}){3}){3}(?=)", 2);
        Check.refusesPatterns("((a{9}){3}){3}(?=a)", "((a{9}){3}){3}(?!)^", "((a{9}){3}){3}a?");
        Check.reads("(?:a{9}){9}", 0);
        Check.reads("(?:a{9}){9}aaaaaaaaaa", 0);
        Check.refusesPatterns("(?:a{9}){9}aaaaaaaaaaa");
        Check.refusesPatterns("(?:a{9}){9}aaaaaaaaa*");
        Check.reads("(?:a{9}){9}aaaaaaaa*", 0);
        Check.reads("(?:a{9}){9}aaaaaaa+", 0);
        Check.refusesPatterns("(?:a{9}){9}aaaaaaaa+");
        Check.reads("(?:a{9}){9}aaaaaaaa?", 0);
        Check.refusesPatterns("(?:a{9}){9}aaaaaaaaa?");
        Check.reads("(?:a{9}){9}aaaaaaaa{0}", 0);
        Check.refusesPatterns("(?:a{9}){9}aaaaaaaaa{0}");
        Check.reads("(?:a{9}){9}aaaa{4,}", 0);
        Check.refusesPatterns("(?:a{9}){9}aaaaa{4,}");
        Check.reads("(?:a{9}){9}a{0,8}", 0);
        Check.refusesPatterns("(?:a{9}){9}a{0,9}");
        Check.reads("(?:a{9}){9}\\d\\/.[^a]^$\\1()|", 1);
        Check.refusesPatterns("(?:a{9}){9}\\d\\/.[^a]^$\\1()|aa");
        Check.refusesPatterns("(?:(?:(?:(?:(?:(?:a{9}){9}){9}){9}){9})");
        Check.refusesPatterns("((((((((a{9}){9}){9}){9}){9}){9}){9}");
        Check.refusesPatterns("(((((((a{9}){9}){9}){9}){9}){9}){9})");
        Check.refusesPatterns("((?:|){9}){9}a");
        Check.reads("(()|(?:a|b)){9}", 2);
    }

    private static void refusesFlags() {
        PatternRunner runner = Check.ready("b", 0, "ab");
        runner.find();
        Check.type(runner, "a");
        int[] wrong = {-1, 8, 9, 16, Integer.MAX_VALUE, Integer.MIN_VALUE};
        for (int flags : wrong) {
            Check.refuses("pattern(" + flags + ")", WRONG, () -> runner.pattern(flags));
        }
        Check.is("what was found stays", 1, runner.from(0));
        Check.is("what is typed stays", 1, Check.typedBeforeOneMore(runner));
        Check.is("START stays, the pattern too", -1, runner.find());
        runner.text();
        Check.type(runner, "*");
        Check.refuses("wrong flags and no pattern", WRONG, () -> runner.pattern(8));
        Check.is("what is typed stays", 1, Check.typedBeforeOneMore(runner));
        for (int flags = 0; flags <= 7; flags++) {
            Check.is("pattern(" + flags + ")", 1,
                Check.pattern(new PatternRunner(), "(a)", flags));
        }
    }

    private static void setsStateAnew() {
        PatternRunner runner = Check.ready("(a)", 0, "aab");
        runner.find();
        runner.find();
        Check.is("pattern", 0, Check.pattern(runner, "a", 0));
        Check.is("nothing was found then", -1, runner.from(0));
        Check.is("nothing was found then", -1, runner.to(1));
        Check.is("nothing is typed then", 0, Check.typedBeforeOneMore(runner));
        Check.is("START is 0, the text as before", 0, runner.find());
        runner.text();
        Check.text(runner, "AB");
        Check.pattern(runner, "b", 4);
        Check.is("the flags are these", 1, runner.find());
        Check.pattern(runner, "b", 0);
        Check.is("the flags are new ones", -1, runner.find());
    }

    private static void keepsAllWhenItRefuses() {
        PatternRunner runner = Check.ready("(A)b?", 4, "aabab");
        runner.find();
        runner.find();
        Check.type(runner, "(x)(y");
        Check.refuses("not closed", WRONG, () -> runner.pattern(0));
        Check.is("what was found stays", 1, runner.from(0));
        Check.is("what was taken stays", 2, runner.to(1));
        Check.is("START, flags and pattern stay", 3, runner.find());
        Check.is("START, flags and pattern stay", 5, runner.to(0));
        Check.type(runner, "<$1$2>");
        Check.is("the groups stay", 3, runner.replace());
        Check.isText("the groups stay", "<a$2><a$2><a$2>", Check.result(runner));
    }
}
