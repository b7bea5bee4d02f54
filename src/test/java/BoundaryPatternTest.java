/** The boundaries of what a pattern is and when it is refused, one sentence each. */
public final class BoundaryPatternTest {
    private static final String[] COUNTS = {"*", "+", "?", "{2}", "{2,}", "{2,3}"};
    private static final String[] OPENINGS = {"(", "(?:", "(?=", "(?!"};

    public static void main(String[] args) {
        hasOneAlternativeOrMore();
        hasTermsWithoutCount();
        hasNoCountWithoutAtom();
        hasAtomsOfOneSign();
        hasSignsBehindBackslash();
        closesWhatIsOpened();
        hasThreeSignsBehindOpening();
        hasCountsOfOneDigit();
        hasOneCountForAnAtom();
        hasLeastAndMost();
        hasSetsWithAnyMembers();
        hasMarksInSets();
        hasDashesInSets();
        isReadFromTheLeft();
        numbersGroups();
        refusesReferences();
        refusesManyGroups();
        refusesDeepNesting();
        refusesGreaterLeast();
        refusesGreaterFirstMark();
        weighsParts();
        weighsCounts();
        Check.end();
    }

    private static void hasOneAlternativeOrMore() {
        Check.sentence("ALTERNATIVES with \"|\" between them (at least one); an alternative is a "
            + "row of TERMS, perhaps none");
        Check.reads("", 0);
        Check.reads("|", 0);
        Check.reads("a|", 0);
        Check.reads("|a", 0);
        Check.reads("a||b", 0);
        Check.reads("|".repeat(40), 0);
        Check.reads("a".repeat(40), 0);
        for (String opening : OPENINGS) {
            Check.reads(opening + ")", groups(opening));
            Check.reads(opening + "|)", groups(opening));
            Check.reads(opening + "a||b)", groups(opening));
            Check.reads(opening + ")|", groups(opening));
        }
        Check.finds("", 0, "a", "0-0");
        Check.finds("|a", 0, "a", "0-0");
        Check.finds("b|", 0, "a", "0-0");
        Check.finds("b||a", 0, "a", "0-0");
        Check.finds("(|a)b", 0, "ab", "0-2 1:0-1");
        Check.finds("(a|)b", 0, "b", "0-1 1:0-0");
    }

    private static void hasTermsWithoutCount() {
        Check.sentence("a term is \"^\", \"$\", a LOOK, or an ATOM and perhaps a COUNT behind it");
        String[] withoutCount = {"^", "$", "(?=a)", "(?!a)"};
        for (String term : withoutCount) {
            Check.reads(term, 0);
            for (String count : COUNTS) {
                Check.refusesPatterns(term + count, "a" + term + count, "(" + term + count + ")");
                Check.reads("(?:" + term + ")" + count, 0);
            }
        }
    }

    private static void hasNoCountWithoutAtom() {
        Check.sentence("an ATOM and perhaps a COUNT behind it");
        for (String count : COUNTS) {
            Check.refusesPatterns(count, "a|" + count, "|" + count, count + "a");
            for (String opening : OPENINGS) {
                Check.refusesPatterns(opening + count + ")", opening + "a|" + count + ")");
            }
            String[] atoms = {"a", ".", "\\.", "\\/", "\\d", "\\S", "[a]", "[]", "[^]", "(?:a)"};
            for (String atom : atoms) {
                Check.reads(atom + count, 0);
                Check.reads(atom + count + "?", 0);
            }
            Check.reads("(a)" + count, 1);
            Check.reads("(a)\\1" + count, 1);
        }
    }

    private static void hasAtomsOfOneSign() {
        Check.sentence("An ATOM is a sign other than ^ $ \\ . * + ? ( ) [ ] { } |; \".\"");
        for (char sign = 32; sign <= 126; sign++) {
            boolean isAtom = sign == '.' || Check.SPECIAL.indexOf(sign) < 0;
            Check.readsOrRefuses(isAtom, sign + "{2}", 0);
            boolean isPattern = isAtom || sign == '^' || sign == '$' || sign == '|';
            Check.readsOrRefuses(isPattern, String.valueOf(sign), 0);
        }
    }

    private static void hasSignsBehindBackslash() {
        Check.sentence("\"\\\" and one of these fourteen signs or \"/\"; \"\\d\", \"\\w\", "
            + "\"\\s\", \"\\D\", \"\\W\", \"\\S\"; \"\\n\", n being 1 .. 9");
        for (char sign = 32; sign <= 126; sign++) {
            boolean isAtom = sign == '/' || Check.SPECIAL.indexOf(sign) >= 0
                || "dwsDWS".indexOf(sign) >= 0;
            Check.readsOrRefuses(isAtom, "\\" + sign, 0);
            boolean isReference = sign >= '1' && sign <= '9';
            Check.readsOrRefuses(isAtom || isReference, "()()()()()()()()()\\" + sign, 9);
        }
        Check.refusesPatterns("\\", "a\\", "(\\)", "a|\\");
    }

    private static void closesWhatIsOpened() {
        Check.sentence("a LOOK \"(?=\" alternatives \")\"; \"(\" alternatives \")\", a GROUP");
        for (String opening : OPENINGS) {
            Check.reads(opening + "a)", groups(opening));
            Check.refusesPatterns(opening, opening + "a", opening + "a|", opening + "a))",
                opening + opening + "a)", "a" + opening);
        }
        Check.refusesPatterns(")", "a)", ")a", "a|)", "(a)|b)");
    }

    private static void hasThreeSignsBehindOpening() {
        Check.sentence("\"(?=\", \"(?!\" and \"(?:\"");
        for (char sign = 32; sign <= 126; sign++) {
            boolean isKnown = sign == ':' || sign == '=' || sign == '!';
            Check.readsOrRefuses(isKnown, "(?" + sign + "a)", 0);
        }
        Check.refusesPatterns("(?", "(?)", "(?:", "(?=", "(?!", "(??:a)", "(?<=a)", "(?<!a)");
        Check.reads("(:a)(=a)(!a)", 3);
        Check.reads("a?:b?=c?!", 0);
        Check.reads("(a?:)(b?=)(c?!)", 3);
    }

    private static void hasCountsOfOneDigit() {
        Check.sentence("\"{n}\", \"{n,}\" or \"{n,m}\", n and m being one digit");
        for (char sign = 32; sign <= 126; sign++) {
            boolean isDigit = sign >= '0' && sign <= '9';
            Check.readsOrRefuses(isDigit, "a{" + sign + "}", 0);
            Check.readsOrRefuses(isDigit, "a{" + sign + ",}", 0);
            Check.readsOrRefuses(isDigit || sign == '}', "a{0," + sign + (isDigit ? "}" : ""), 0);
            Check.readsOrRefuses(isDigit, "a{" + sign + ",9}", 0);
            Check.readsOrRefuses(sign == '}', "a{2" + sign, 0);
            Check.readsOrRefuses(sign == '}', "a{2,3" + sign, 0);
            Check.readsOrRefuses(sign == ',', "a{2" + sign + "3}", 0);
        }
        Check.refusesPatterns("a{}", "a{,}", "a{,3}", "a{10}", "a{00}", "a{01}", "a{10,}",
            "a{1,10}", "a{01,2}", "a{1,02}", "a{ 1}", "a{1 }", "a{1, 2}", "a{-1}", "a{+1}",
            "a{1,2,3}", "a{1,,2}", "a{{1}}", "a{1}}", "a{", "a{1", "a{1,", "a{1,2", "{1}a", "a}");
    }

    private static void hasOneCountForAnAtom() {
        Check.sentence("and perhaps \"?\" behind it (then it is LAZY, otherwise EAGER)");
        for (String count : COUNTS) {
            Check.reads("a" + count, 0);
            Check.reads("a" + count + "?", 0);
            Check.refusesPatterns("a" + count + "??");
            for (String other : COUNTS) {
                if (!other.equals("?")) {
                    Check.refusesPatterns("a" + count + other);
                }
                Check.refusesPatterns("a" + count + "?" + other);
                Check.reads("(?:a" + count + ")" + other, 0);
            }
        }
        String as = "aaaa";
        String[] eager = {"0-4", "0-4", "0-1", "0-2", "0-4", "0-3"};
        String[] lazy = {"0-0", "0-1", "0-0", "0-2", "0-2", "0-2"};
        for (int i = 0; i < COUNTS.length; i++) {
            Check.finds("a" + COUNTS[i], 0, as, eager[i]);
            Check.finds("a" + COUNTS[i] + "?", 0, as, lazy[i]);
        }
    }

    private static void hasLeastAndMost() {
        Check.sentence("its least and most are 0 and endless; 1 and endless; 0 and 1; n and n; "
            + "n and endless; n and m");
        String all = "a".repeat(24);
        limits("*", 0, 24);
        limits("+", 1, 24);
        limits("?", 0, 1);
        for (int n = 0; n <= 9; n++) {
            limits("{" + n + "}", n, n);
            limits("{" + n + ",}", n, 24);
            for (int m = n; m <= 9; m++) {
                limits("{" + n + "," + m + "}", n, m);
            }
        }
        Check.finds("^a*$", 0, all, "0-24");
        Check.finds("^a{9,}$", 0, all, "0-24");
    }

    /** Tries a count with as many signs as its least and most, with one less and with one more. */
    private static void limits(String count, int least, int most) {
        String all = "a".repeat(24);
        Check.finds("a" + count, 0, all, "0-" + most);
        Check.finds("a" + count + "?", 0, all, "0-" + least);
        for (String mode : new String[] {"", "?"}) {
            String whole = "^a" + count + mode + "$";
            Check.finds(whole, 0, all.substring(0, least), "0-" + least);
            Check.finds(whole, 0, all.substring(0, most), "0-" + most);
            if (least > 0) {
                Check.finds(whole, 0, all.substring(0, least - 1), "none");
            }
            if (most < 24) {
                Check.finds(whole, 0, all.substring(0, most + 1), "none");
            }
        }
    }

    private static void hasSetsWithAnyMembers() {
        Check.sentence("A SET is \"[\", perhaps \"^\", MEMBERS (perhaps none), \"]\"");
        Check.fits("[]", 0, "");
        Check.fits("[^]", 0, Check.allBut(""));
        Check.fits("[^^]", 0, Check.allBut("^"));
        Check.fits("[a^]", 0, "^a");
        Check.fits("[\\^]", 0, "^");
        Check.reads("[" + "a".repeat(38) + "]", 0);
        Check.reads("[^" + "-".repeat(37) + "]", 0);
        Check.refusesPatterns("[", "[^", "[a", "[^a", "[a-", "[a-b", "[\\]", "[^\\]", "]", "a]",
            "[" + "a".repeat(39));
    }

    private static void hasMarksInSets() {
        Check.sentence("A mark is a sign other than \"\\\" and \"]\", or \"\\\" and one of the "
            + "fourteen signs, \"/\" or \"-\", or \"\\d\" and so on (these in no range)");
        for (char sign = 32; sign <= 126; sign++) {
            boolean isMark = sign != '\\' && sign != ']';
            Check.readsOrRefuses(isMark, "[a" + sign + "]", 0);
            boolean isKind = "dwsDWS".indexOf(sign) >= 0;
            boolean isEscaped = sign == '/' || sign == '-' || Check.SPECIAL.indexOf(sign) >= 0;
            Check.readsOrRefuses(isEscaped || isKind, "[\\" + sign + "]", 0);
            if (isMark) {
                Check.fits("[_" + sign + "]", 0, Check.allBut(Check.allBut("_" + sign)));
            }
            if (isEscaped) {
                Check.fits("[\\" + sign + "]", 0, String.valueOf(sign));
            }
            if (isKind) {
                String kind = "\\" + sign;
                Check.refusesPatterns("[" + kind + "-~]", "[ -" + kind + "]",
                    "[" + kind + "-" + kind + "]", "[^ -" + kind + "]", "[a" + kind + "-~]");
                Check.reads("[" + kind + "-]", 0);
                Check.reads("[-" + kind + "]", 0);
                Check.reads("[a-c" + kind + "]", 0);
                Check.reads("[" + kind + "a-c]", 0);
                Check.reads("[a-c-" + kind + "]", 0);
            }
        }
    }

    private static void hasDashesInSets() {
        Check.sentence("A \"-\" that stands first or right behind a range is a mark of its own, "
            + "with which no range begins");
        Check.fits("[-]", 0, "-");
        Check.fits("[^-]", 0, Check.allBut("-"));
        Check.fits("[-0]", 0, "-0");
        Check.fits("[--0]", 0, "-0");
        Check.fits("[^--0]", 0, Check.allBut("-0"));
        Check.fits("[--+]", 0, "+-");
        Check.fits("[+-,-0]", 0, "+,-0");
        Check.fits("[+-,--]", 0, "+,-");
        Check.fits("[+-,--!]", 0, "!+,-");
        Check.fits("[+-,-]", 0, "+,-");
        Check.fits("[0-2-4-6]", 0, "-012456");
        Check.fits("[-0-2]", 0, "-012");
        Check.sentence("Otherwise, when a mark is followed by \"-\" and by something else than "
            + "\"]\", these are a range to the next mark");
        Check.fits("[0-2]", 0, "012");
        Check.fits("[0-]", 0, "-0");
        Check.fits("[^0-]", 0, Check.allBut("-0"));
        Check.fits("[--]", 0, "-");
        Check.fits("[---]", 0, "-");
        Check.fits("[---0]", 0, "-./0");
        Check.fits("[\\--0]", 0, "-./0");
        Check.fits("[+--]", 0, "+,-");
        Check.fits("[+---]", 0, "+,-");
        Check.fits("[+-\\-]", 0, "+,-");
        Check.fits("[X-\\]]", 0, "XYZ[\\]");
        Check.fits("[0\\-2]", 0, "-02");
        Check.fits("[^-^]", 0, Check.allBut("-^"));
        Check.fits("[\\^-`]", 0, "^_`");
        Check.fits("[[-^]", 0, "[\\]^");
        Check.refusesPatterns("[0--]", "[a--]", "[---+]", "[+-,---+]");
    }

    private static void isReadFromTheLeft() {
        Check.sentence("It is read from the left, as far as it goes in each part");
        Check.refusesPatterns("[]a]", "[^]a]", "[[]]", "[a-]]", "[-]-]", "[a]]");
        Check.finds("[]a|b", 0, "ab", "1-2");
        Check.finds("(a)\\10", 0, "aa0", "0-3 1:0-1");
        Check.finds("(a)\\1{2}", 0, "aaa", "0-3 1:0-1");
        Check.finds("ab*", 0, "abb", "0-3");
        Check.finds("ab{2}", 0, "abab", "none");
        Check.finds("a|bc", 0, "ac", "0-1");
        Check.finds("\\\\d", 0, "\\d", "0-2");
        Check.finds("a??b", 0, "ab", "0-2");
        Check.finds("[(]a[)]", 0, "(a)", "0-3");
        Check.finds("[|]", 0, "|", "0-1");
    }

    private static void numbersGroups() {
        Check.sentence("Groups are numbered 1, 2, .. by their \"(\"");
        Check.finds("((a)(b(c)))(d)", 0, "abcd", "0-4 1:0-3 2:0-1 3:1-3 4:2-3 5:3-4");
        Check.finds("(?:a)(?=(b))(?!(c))(b)", 0, "ab", "0-2 1:1-2 2:none 3:1-2");
        Check.finds("\\((a)[(]\\)(b)", 0, "(a()b", "0-5 1:1-2 2:4-5");
        Check.finds("(a)|(b)", 0, "b", "0-1 1:none 2:0-1");
        Check.finds("(((((((())))))))()", 0, "",
            "0-0 1:0-0 2:0-0 3:0-0 4:0-0 5:0-0 6:0-0 7:0-0 8:0-0 9:0-0");
    }

    private static void refusesReferences() {
        Check.sentence("REFUSED if it has a reference to a group that it does not have");
        for (int n = 1; n <= 9; n++) {
            String reference = "\\" + n;
            Check.reads("()".repeat(n) + reference, n);
            Check.reads(reference + "()".repeat(n), n);
            Check.refusesPatterns("()".repeat(n - 1) + reference, reference + "()".repeat(n - 1));
            Check.refusesPatterns("()".repeat(n - 1) + reference + "{0}");
        }
        Check.reads("(\\1)", 1);
        Check.reads("(?!())\\1", 1);
        Check.reads("(?:())\\1", 1);
        Check.reads("a|\\1|()", 1);
        Check.refusesPatterns("(?:)\\1", "(?=)\\1", "(?!)\\1", "\\(\\)\\1", "[(]\\1", "(\\2)");
    }

    private static void refusesManyGroups() {
        Check.sentence("REFUSED if it has more than 9 groups");
        Check.reads("()".repeat(9), 9);
        Check.refusesPatterns("()".repeat(10), "(a)".repeat(10), "()".repeat(20));
        Check.reads("()".repeat(9) + "(?:)(?=)(?!)", 9);
        Check.refusesPatterns("()".repeat(9) + "(?:())", "()".repeat(9) + "(?=())",
            "()".repeat(9) + "(?!())", "()".repeat(9) + "|()", "()".repeat(9) + "(){0}");
        Check.reads("(?:)".repeat(10), 0);
        Check.reads("(?=)".repeat(10), 0);
        Check.reads("(?!)".repeat(10), 0);
        Check.reads("((((((((a))))))))(b)", 9);
        Check.refusesPatterns("((((((((a))))))))(b)(c)");
    }

    private static void refusesDeepNesting() {
        Check.sentence("REFUSED if it has more than 8 groups, \"(?:\" or looks in one another");
        for (String opening : OPENINGS) {
            for (String other : OPENINGS) {
                Check.reads(nested(7, opening, other, 0), 7 * groups(opening) + groups(other));
                Check.reads(nested(0, opening, other, 7), groups(other) + 7 * groups(opening));
                Check.refusesPatterns(nested(8, opening, other, 0), nested(0, opening, other, 8),
                    nested(4, opening, other, 4), "|" + nested(8, opening, other, 0));
            }
        }
        Check.reads("(?:(?=(?!((?:(?=(?!()a)b)c)d)e)f)g)", 2);
        Check.refusesPatterns("(?:(?=(?!((?:(?=(?!(()a)b)c)d)e)f)g)h)");
        Check.reads("((((((((a)|(b))))))))", 9);
        Check.reads("(a)(a)(a)(a)(a)(a)(a)(a)(a)", 9);
        Check.reads("((((a))))(?:(?:(?:(?:a))))(?=((a)))", 6);
        Check.finds("((((((((a)b)c)d)e)f)g)h)i", 0, "abcdefghi",
            "0-9 1:0-8 2:0-7 3:0-6 4:0-5 5:0-4 6:0-3 7:0-2 8:0-1");
    }

    private static int groups(String opening) {
        return opening.equals("(") ? 1 : 0;
    }

    /** Some openings, another one and some more, all in one another. */
    private static String nested(int before, String opening, String other, int behind) {
        return opening.repeat(before) + other + opening.repeat(behind)
            + ")".repeat(before + 1 + behind);
    }

    private static void refusesGreaterLeast() {
        Check.sentence("REFUSED if it has a count whose n is greater than its m");
        for (int n = 0; n <= 9; n++) {
            for (int m = 0; m <= 9; m++) {
                Check.readsOrRefuses(n <= m, "a{" + n + "," + m + "}", 0);
                Check.readsOrRefuses(n <= m, "(a){" + n + "," + m + "}?", 1);
            }
        }
    }

    private static void refusesGreaterFirstMark() {
        Check.sentence("REFUSED if it has a range whose first mark is greater than its last");
        for (char first = 32; first <= 126; first++) {
            for (char last = 32; last <= 126; last++) {
                String range = "[" + mark(first) + "-" + mark(last) + "]";
                try {
                    Check.pattern(new PatternRunner(), range, 0);
                    Check.isTrue(range + " being read", first <= last);
                } catch (IllegalArgumentException e) {
                    Check.isTrue(range + " being refused", first > last);
                }
            }
            Check.fits("[" + mark(first) + "-" + mark(first) + "]", 0, String.valueOf(first));
            if (first < 126) {
                char next = (char) (first + 1);
                Check.fits("[" + mark(first) + "-" + mark(next) + "]", 0, "" + first + next);
            }
        }
        Check.refusesPatterns("[b-a]", "[^b-a]", "[ab-a]", "[a-cz-y]", "[a-Z]", "[z-A]", "[9-0]");
        Check.reads("[Z-a]", 0);
    }

    private static String mark(char sign) {
        boolean needsBackslash = sign == '-' || Check.SPECIAL.indexOf(sign) >= 0;
        return needsBackslash ? "\\" + sign : String.valueOf(sign);
    }

    /** A row of terms with a weight of 0 to 121, of 15 signs at most. */
    private static String filler(int weight) {
        int times = Math.min(9, (weight - 2) / 12);
        int left = times >= 1 ? weight - 12 * times - 2 : weight;
        String heavy = times >= 1 ? "(?:z{9}){" + times + "}" : "";
        if (left > 11) {
            return heavy + "z{9}" + "z".repeat(left - 11);
        }
        return heavy + (left >= 3 ? "z{" + (left - 2) + "}" : "z".repeat(left));
    }

    /** Filled up to a weight of 120 it is read, and to 121 it is refused. */
    private static void weighs(int weight, String part) {
        try {
            Check.pattern(new PatternRunner(), filler(120 - weight) + part, 0);
        } catch (IllegalArgumentException e) {
            Check.complain(part + " weighs more than " + weight);
        }
        Check.refusesPatterns(filler(121 - weight) + part);
    }

    private static void weighsParts() {
        Check.sentence("an atom that is no group, \"^\" and \"$\" weigh 1");
        String[] ones = {"a", "-", ".", "\\.", "\\/", "\\d", "\\w", "\\s", "\\D", "\\W", "\\S",
            "[]", "[^]", "[a]", "[a-z0-9_\\d-]", "^", "$"};
        for (String one : ones) {
            weighs(1, one);
            weighs(2, "a" + one);
        }
        weighs(2, "()\\1");
        Check.sentence("a row the sum, alternatives the sum of all and 1 for each \"|\"");
        weighs(0, "");
        weighs(5, "ab^c$");
        weighs(1, "|");
        weighs(2, "||");
        weighs(3, "a|b");
        weighs(9, "ab|cd|ef|");
        Check.sentence("groups, \"(?:\" and looks 1 more than what is in them");
        for (String opening : OPENINGS) {
            weighs(1, opening + ")");
            weighs(2, opening + "a)");
            weighs(4, opening + "a|b)");
            weighs(3, opening + "^$)");
            weighs(4, opening + opening + "a|))");
        }
        weighs(9, "((((((((a))))))))");
    }

    private static void weighsCounts() {
        Check.sentence("an atom with a count: its weight times the greater one of 1 and the most "
            + "(the least and 1 when it is endless), and 2");
        String[] atoms = {"a", "[a-z]", "(?:ab)", "(|)"};
        int[] weights = {1, 1, 3, 2};
        for (int i = 0; i < atoms.length; i++) {
            for (String mode : new String[] {"", "?"}) {
                weighs(weights[i] + 2, atoms[i] + "*" + mode);
                weighs(weights[i] * 2 + 2, atoms[i] + "+" + mode);
                weighs(weights[i] + 2, atoms[i] + "?" + mode);
                for (int n = 0; n <= 9; n++) {
                    int most = Math.max(1, n);
                    weighs(weights[i] * most + 2, atoms[i] + "{" + n + "}" + mode);
                    weighs(weights[i] * most + 2, atoms[i] + "{0," + n + "}" + mode);
                    weighs(weights[i] * (n + 1) + 2, atoms[i] + "{" + n + ",}" + mode);
                    weighs(weights[i] * 9 + 2, atoms[i] + "{" + n + ",9}" + mode);
                }
            }
        }
        weighs(17, "(?:a{2}){3}");
        weighs(6, "(a*)*");
        weighs(119, "((a{9}){3}){3}");
        weighs(120, "(?:a{9}){9}aaaaaaaaaa");
        Check.refusesPatterns("(((((((a{9}){9}){9}){9}){9}){9}){9}){9}",
            "(?:(?:(?:(?:a{9,}){9,}){9,}){9,}){9,}");
    }
}
