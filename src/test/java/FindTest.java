/** Promise 6: trying the pattern at one place after the other, and what fits. */
public final class FindTest {
    private static final int STICKY = 1;
    private static final int LINES = 2;
    private static final int ALIKE = 4;

    public static void main(String[] args) {
        triesPlaces();
        setsStart();
        fitsSigns();
        fitsAlike();
        fitsLines();
        takesAlternatives();
        takesCounts();
        takesGroups();
        takesReferences();
        takesLooks();
        holdsManyChoices();
        throwsAboveFiveHundred();
        Check.end();
    }

    private static void finds(String pattern, int flags, String text, String due) {
        Check.isText("find() of " + pattern + " with " + flags + " in " + text, due,
            Check.found(pattern, flags, text));
    }

    private static void triesPlaces() {
        finds("b", 0, "aab", "2-3");
        finds("b", STICKY, "aab", "none");
        finds("a", STICKY, "aab", "0-1");
        finds("$", 0, "aab", "3-3");
        finds("$", STICKY, "aab", "none");
        finds("", 0, "", "0-0");
        finds("a", 0, "", "none");
        finds("aaaaaaaaaaaaaaaaaaaaaaaa", 0, "aaaaaaaaaaaaaaaaaaaaaaaa", "0-24");
        finds("$", 0, "aaaaaaaaaaaaaaaaaaaaaaaa", "24-24");
    }

    private static void setsStart() {
        PatternRunner runner = Check.ready("a+|c", 0, "aabac");
        Check.is("the first", 0, runner.find());
        Check.is("the second", 3, runner.find());
        Check.is("the third", 4, runner.find());
        Check.is("no more", -1, runner.find());
        Check.is("START is 0 then", 0, runner.find());
        PatternRunner empty = Check.ready("x*", 0, "ab");
        Check.is("the empty text", 0, empty.find());
        Check.is("the empty text once more", 0, empty.find());
        PatternRunner sticky = Check.ready("a", STICKY, "aab");
        Check.is("sticky", 0, sticky.find());
        Check.is("sticky", 1, sticky.find());
        Check.is("sticky", -1, sticky.find());
        sticky.start(3);
        Check.is("sticky at the end", -1, sticky.find());
        sticky.start(4);
        Check.is("sticky behind the end", -1, sticky.find());
        Check.is("sticky from 0", 0, sticky.find());
        PatternRunner begin = Check.ready("^a", 0, "aa");
        Check.is("^ at 0", 0, begin.find());
        Check.is("^ is of the text, not of START", -1, begin.find());
    }

    /** Compares what fits an atom with a list, for all signs. */
    private static void fits(String atom, int flags, String due) {
        StringBuilder got = new StringBuilder();
        for (char sign = 32; sign <= 126; sign++) {
            if (!Check.found("^" + atom + "$", flags, String.valueOf(sign)).equals("none")) {
                got.append(sign);
            }
        }
        Check.isText("what fits " + atom + " with " + flags, due, got.toString());
    }

    private static String signs(char first, char last) {
        StringBuilder all = new StringBuilder();
        for (char sign = first; sign <= last; sign++) {
            all.append(sign);
        }
        return all.toString();
    }

    private static String allBut(String some) {
        StringBuilder all = new StringBuilder();
        for (char sign = 32; sign <= 126; sign++) {
            if (some.indexOf(sign) < 0) {
                all.append(sign);
            }
        }
        return all.toString();
    }

    private static void fitsSigns() {
        String word = "0123456789ABCDEFGHIJKLMNOPQRSTUVWXYZ_abcdefghijklmnopqrstuvwxyz";
        fits("a", 0, "a");
        fits("-", 0, "-");
        fits("/", 0, "/");
        fits("\\/", 0, "/");
        fits("\\.", 0, ".");
        fits("\\\\", 0, "\\");
        fits(".", 0, allBut(""));
        fits("\\d", 0, "0123456789");
        fits("\\D", 0, allBut("0123456789"));
        fits("\\w", 0, word);
        fits("\\W", 0, allBut(word));
        fits("\\s", 0, " ");
        fits("\\S", 0, allBut(" "));
        fits("[]", 0, "");
        fits("[^]", 0, allBut(""));
        fits("[a^]", 0, "^a");
        fits("[^^]", 0, allBut("^"));
        fits("[^a-c ]", 0, allBut(" abc"));
        fits("[\\d\\s_]", 0, " 0123456789_");
        fits("[^\\W]", 0, word);
        fits("[\\]\\-\\\\\\/]", 0, "-/\\]");
        fits("[-a-c-e]", 0, "-abce");
        fits("[--a]", 0, "-a");
        fits("[^--a]", 0, allBut("-a"));
        fits("[---a]", 0, signs('-', 'a'));
        fits("[a-c--e]", 0, "-abce");
        fits("[a-c---1]", 0, signs('-', '1') + "abc");
        fits("[\\--1]", 0, signs('-', '1'));
        fits("[+--]", 0, "+,-");
        fits("[+---]", 0, "+,-");
        fits("[+-\\-1]", 0, "+,-1");
        fits("[a-]", 0, "-a");
        fits("[\\d-]", 0, "-0123456789");
        fits("[a-c\\-e]", 0, "-abce");
        fits("[[-]", 0, "-[");
        fits("[ -~]", 0, allBut(""));
        fits("[.*]", 0, "*.");
        fits("(?:1|[a]|A[b])", 0, "1a");
        finds("[^a]", 0, "a", "none");
        finds("\\D", 0, "1", "none");
        finds(".", 0, "", "none");
    }

    private static void fitsAlike() {
        fits("a", ALIKE, "Aa");
        fits("Z", ALIKE, "Zz");
        fits("@", ALIKE, "@");
        fits("\\[", ALIKE, "[");
        fits("`", ALIKE, "`");
        fits("_", ALIKE, "_");
        fits("[a-c]", ALIKE, "ABCabc");
        fits("[X-b]", ALIKE, "AB" + signs('X', 'b') + "xyz");
        fits("[^a]", ALIKE, allBut("Aa"));
        fits("[^A]", ALIKE, allBut("Aa"));
        fits("[^B-Y]", ALIKE, allBut(signs('B', 'Y') + signs('b', 'y')));
        fits("\\W", ALIKE, allBut("0123456789_" + signs('A', 'Z') + signs('a', 'z')));
        fits("[^\\w]", ALIKE, allBut("0123456789_" + signs('A', 'Z') + signs('a', 'z')));
        fits("\\D", ALIKE, allBut("0123456789"));
        fits(".", ALIKE, allBut(""));
    }

    private static void fitsLines() {
        fits(".", LINES, allBut("/"));
        fits("/", LINES, "/");
        fits("[^a]", LINES, allBut("a"));
        fits("\\S", LINES, allBut(" "));
        finds("^b", 0, "a/b", "none");
        finds("^b", LINES, "a/b", "2-3");
        finds("a$", 0, "a/b", "none");
        finds("a$", LINES, "a/b", "0-1");
        finds("^$", LINES, "a//b", "2-2");
        finds("^$", LINES, "a/", "2-2");
        finds("^$", LINES, "/", "0-0");
        finds("b$", LINES, "a/b", "2-3");
        finds("a^", LINES, "a/b", "none");
        finds("$a", LINES, "a/a", "none");
        finds(".+$", LINES, "ab/c", "0-2");
        finds(".+$", 0, "ab/c", "0-4");
    }

    private static void takesAlternatives() {
        finds("a|ab", 0, "ab", "0-1");
        finds("(?:a|ab)c", 0, "abc", "0-3");
        finds("b|a", 0, "ab", "0-1");
        finds("|a", 0, "a", "0-0");
        finds("(a|ab)(c|bcd)(d*)", 0, "abcd", "0-4 1:0-1 2:1-4 3:4-4");
        finds("(?:x|(y))z|yz", 0, "yz", "0-2 1:0-1");
    }

    private static void takesCounts() {
        finds("a*", 0, "aaa", "0-3");
        finds("a*?", 0, "aaa", "0-0");
        finds("a+", 0, "aaa", "0-3");
        finds("a+?", 0, "aaa", "0-1");
        finds("a?", 0, "aaa", "0-1");
        finds("a??", 0, "aaa", "0-0");
        finds("a{2}", 0, "aaa", "0-2");
        finds("a{4}", 0, "aaa", "none");
        finds("a{2,}", 0, "aaa", "0-3");
        finds("a{2,}?", 0, "aaa", "0-2");
        finds("a{1,2}", 0, "aaa", "0-2");
        finds("a{1,2}?", 0, "aaa", "0-1");
        finds("a{1,2}?$", 0, "aaa", "1-3");
        finds("a{0}b", 0, "ab", "1-2");
        finds("(a){0}b", 0, "ab", "1-2 1:none");
        finds("a*a", 0, "aaa", "0-3");
        finds("(a*)(a*)", 0, "aa", "0-2 1:0-2 2:2-2");
        finds("(a*?)(a*)", 0, "aa", "0-2 1:0-0 2:0-2");
        finds("(a?)*", 0, "aa", "0-2 1:1-2");
        finds("(a*)*", 0, "b", "0-0 1:none");
        finds("(a*)+", 0, "b", "0-0 1:0-0");
        finds("(a*){2}", 0, "b", "0-0 1:0-0");
        finds("(?:a*?)*b", 0, "aab", "0-3");
        finds("(?:){9}a", 0, "a", "0-1");
        finds("(){0,3}a", 0, "a", "0-1 1:none");
        finds("(){2,3}a", 0, "a", "0-1 1:0-0");
        finds("(?:(a)|b)*?$", 0, "ab", "0-2 1:none");
        finds("(?:a{2}){2}", 0, "aaaaa", "0-4");
        finds("a*b*a*b*a*b*a*b*a*b*a*b*a*b*a*b*a*b*a*b*", 0, "abbaababbbabc", "0-12");
        finds("(?:a|b{2,3}?)*c", 0, "abbabbbac", "0-9");
        finds("(?:(?:ab){2}c){2}", 0, "ababcababc", "0-10");
    }

    private static void takesGroups() {
        finds("(?:(a)|(b)|c)*", 0, "abcab", "0-5 1:none 2:4-5");
        finds("(z)((a+)?(b+)?(c))*", 0, "zaacbbbcac", "0-10 1:0-1 2:8-10 3:8-9 4:none 5:9-10");
        finds("(?:(a)|b)*", 0, "ab", "0-2 1:none");
        finds("(?:(a)|b)*b", 0, "ab", "0-2 1:0-1");
        finds("(?:(a)|(b))+?c", 0, "abc", "0-3 1:none 2:1-2");
        finds("(a(b)?)+", 0, "aba", "0-3 1:2-3 2:none");
        finds("((a)|b)*x|.", 0, "ab", "0-1 1:none 2:none");
        finds("(a)|b", 0, "b", "0-1 1:none");
        finds("((a)(b))", 0, "ab", "0-2 1:0-2 2:0-1 3:1-2");
    }

    private static void takesReferences() {
        finds("(a+)\\1", 0, "aaaaa", "0-4 1:0-2");
        finds("(ab)\\1", 0, "abAB", "none");
        finds("(ab)\\1", ALIKE, "abAB", "0-4 1:0-2");
        finds("(aB1-)\\1", ALIKE, "Ab1-aB1-", "0-8 1:0-4");
        finds("(.)\\1", ALIKE, "@`[{", "none");
        finds("(az)\\1", ALIKE, "AZaz", "0-4 1:0-2");
        finds("\\1(a)", 0, "a", "0-1 1:0-1");
        finds("(a\\1)", 0, "aa", "0-1 1:0-1");
        finds("(?:(a)|b)\\1c", 0, "bc", "0-2 1:none");
        finds("(?:(a)|b\\1)*c", 0, "abc", "0-3 1:none");
        finds("(ab)\\1", 0, "aba", "none");
        finds("()\\1a", 0, "a", "0-1 1:0-0");
        finds("(a)\\10", 0, "aa0", "0-3 1:0-1");
        finds("(?:(a)\\1?)*", 0, "aaa", "0-3 1:2-3");
    }

    private static void takesLooks() {
        finds("a(?=b)", 0, "acab", "2-3");
        finds("a(?!b)", 0, "abac", "2-3");
        finds("(?=(a+))a*b\\1", 0, "baaabac", "3-6 1:3-4");
        finds("(?=(a+?))a*b\\1", 0, "aaba", "0-4 1:0-1");
        finds("(?=(a*))\\1a", 0, "aaa", "none");
        finds("(?!(a)b)a\\1c", 0, "abac", "2-4 1:none");
        finds("(?!a(b))[ab]+?(?!b)", 0, "abba", "1-3 1:none");
        finds("(?!(?!(a)))\\1", 0, "a", "0-0 1:none");
        finds("(?=(a))(?=(b)|)", 0, "a", "0-0 1:0-1 2:none");
        finds("(?:(?=(a))b|(?=a).)", 0, "a", "0-1 1:none");
        finds("(?:(?=(a|b))[ab])*", 0, "ab", "0-2 1:1-2");
        finds("(?=a|ab)ab(?=$)", 0, "ab", "0-2");
        finds("(?=)a", 0, "a", "0-1");
        finds("(?=a(?=b))a", 0, "ab", "0-1");
        finds("(?=a(?!c)b)(?!a(?=c))a", 0, "acab", "2-3");
        finds("(?=)(?=)(?=)(?=)(?=)(?=)(?=)(?=)(?=)(?=)", 0, "a", "0-0");
        finds("(?!b)(?!b)(?!b)(?!b)(?!b)(?!b)(?!b)(?!b)", 0, "ba", "1-1");
        finds("(?!)|b", 0, "ab", "1-2");
        finds("(?=(?=(?!b)a)a)(?!aa)a", 0, "aab", "1-2");
        finds("(?:(a)|(b))*(?!c)", 0, "abc", "0-1 1:0-1 2:none");
    }

    private static void holdsManyChoices() {
        String text = "dddddddddddddddddddddddd";
        finds("(?:(?:a*?b*?c*?d*?e*?f*?){5}d)*", 0, text, "0-24");
        finds("(?:(?:a*?b*?c*?){9}d)*", 0, text, "0-24");
        finds("(?:(?=((d)))(?:a??){9}(d|e))*", 0, text, "0-24 1:23-24 2:23-24 3:23-24");
        finds("(?:((((((d)|e))))))*", 0, text,
            "0-24 1:23-24 2:23-24 3:23-24 4:23-24 5:23-24 6:23-24");
    }

    private static void throwsAboveFiveHundred() {
        PatternRunner most = Check.ready("a+?b|c|d", 0, "aaaaaaaaaaaaaaaaaaa");
        Check.is("500 steps are made", -1, most.find());
        Check.is("500 steps are made", 500, most.steps());
        PatternRunner more = Check.ready("(a+)+b", 0, "aaaaaa");
        Check.refuses("501 steps", UnsupportedOperationException.class, more::find);

        PatternRunner kept = Check.ready("a|(b+)+c", 0, "abbbbbbbbbbb");
        Check.is("the first is found", 0, kept.find());
        int before = kept.steps();
        Check.type(kept, "tt");
        Check.refuses("too many steps", UnsupportedOperationException.class, kept::find);
        Check.is("what was found stays", 0, kept.from(0));
        Check.is("what was found stays", 1, kept.to(0));
        Check.is("steps() stays", before, kept.steps());
        Check.refuses("START stays", UnsupportedOperationException.class, kept::find);
        kept.start(0);
        Check.is("the first once more", 0, kept.find());
        Check.is("what is typed stays", 2, Check.typedBeforeOneMore(kept));
    }
}
