/** Promise 6: trying the pattern at one place after the other, and what fits. */
public final class FindTest {
    private static final int STICKY = Check.STICKY;
    private static final int LINES = Check.LINES;
    private static final int ALIKE = Check.ALIKE;

    public static void main(String[] args) {
        triesPlaces();
        setsStart();
        fitsSigns();
        fitsAlike();
        fitsLines();
        takesAlternatives();
        takesCounts();
        takesGroups();
        takesReferences();
        takesLooks();
        holdsManyChoices();
        throwsAboveFiveHundred();
        Check.end();
    }

    private static void triesPlaces() {
        Check.finds("b", 0, "aab", "2-3");
        Check.finds("b", STICKY, "aab", "none");
        Check.finds("a", STICKY, "aab", "0-1");
        Check.finds("$", 0, "aab", "3-3");
        Check.finds("$", STICKY, "aab", "none");
        Check.finds("", 0, "", "0-0");
        Check.finds("a", 0, "", "none");
        Check.finds("aaaaaaaaaaaaaaaaaaaaaaaa", 0, "aaaaaaaaaaaaaaaaaaaaaaaa", "0-24");
        Check.finds("$", 0, "aaaaaaaaaaaaaaaaaaaaaaaa", "24-24");
    }

    private static void setsStart() {
        PatternRunner runner = Check.ready("a+|c", 0, "aabac");
        Check.is("the first", 0, runner.find());
        Check.is("the second", 3, runner.find());
        Check.is("the third", 4, runner.find());
        Check.is("no more", -1, runner.find());
        Check.is("START is 0 then", 0, runner.find());
        PatternRunner empty = Check.ready("x*", 0, "ab");
        Check.is("the empty text", 0, empty.find());
        Check.is("the empty text once more", 0, empty.find());
        PatternRunner sticky = Check.ready("a", STICKY, "aab");
        Check.is("sticky", 0, sticky.find());
        Check.is("sticky", 1, sticky.find());
        Check.is("sticky", -1, sticky.find());
        sticky.start(3);
        Check.is("sticky at the end", -1, sticky.find());
        sticky.start(4);
        Check.is("sticky behind the end", -1, sticky.find());
        Check.is("sticky from 0", 0, sticky.find());
        PatternRunner begin = Check.ready("^a", 0, "aa");
        Check.is("^ at 0", 0, begin.find());
        Check.is("^ is of the text, not of START", -1, begin.find());
    }

    private static void fitsSigns() {
        String word = "0123456789ABCDEFGHIJKLMNOPQRSTUVWXYZ_abcdefghijklmnopqrstuvwxyz";
        Check.fits("a", 0, "a");
        Check.fits("-", 0, "-");
        Check.fits("/", 0, "/");
        Check.fits("\\/", 0, "/");
        Check.fits("\\.", 0, ".");
        Check.fits("\\\\", 0, "\\");
        Check.fits(".", 0, Check.allBut(""));
        Check.fits("\\d", 0, "0123456789");
        Check.fits("\\D", 0, Check.allBut("0123456789"));
        Check.fits("\\w", 0, word);
        Check.fits("\\W", 0, Check.allBut(word));
        Check.fits("\\s", 0, " ");
        Check.fits("\\S", 0, Check.allBut(" "));
        Check.fits("[]", 0, "");
        Check.fits("[^]", 0, Check.allBut(""));
        Check.fits("[a^]", 0, "^a");
        Check.fits("[^^]", 0, Check.allBut("^"));
        Check.fits("[^a-c ]", 0, Check.allBut(" abc"));
        Check.fits("[\\d\\s_]", 0, " 0123456789_");
        Check.fits("[^\\W]", 0, word);
        Check.fits("[\\]\\-\\\\\\/]", 0, "-/\\]");
        Check.fits("[-a-c-e]", 0, "-abce");
        Check.fits("[--a]", 0, "-a");
        Check.fits("[^--a]", 0, Check.allBut("-a"));
        Check.fits("[---a]", 0, Check.signs('-', 'a'));
        Check.fits("[a-c--e]", 0, "-abce");
        Check.fits("[a-c---1]", 0, Check.signs('-', '1') + "abc");
        Check.fits("[\\--1]", 0, Check.signs('-', '1'));
        Check.fits("[+--]", 0, "+,-");
        Check.fits("[+---]", 0, "+,-");
        Check.fits("[+-\\-1]", 0, "+,-1");
        Check.fits("[a-]", 0, "-a");
        Check.fits("[\\d-]", 0, "-0123456789");
        Check.fits("[a-c\\-e]", 0, "-abce");
        Check.fits("[[-]", 0, "-[");
        Check.fits("[ -~]", 0, Check.allBut(""));
        Check.fits("[.*]", 0, "*.");
        Check.fits("(?:1|[a]|A[b])", 0, "1a");
        Check.finds("[^a]", 0, "a", "none");
        Check.finds("\\D", 0, "1", "none");
        Check.finds(".", 0, "", "none");
    }

    private static void fitsAlike() {
        Check.fits("a", ALIKE, "Aa");
        Check.fits("Z", ALIKE, "Zz");
        Check.fits("@", ALIKE, "@");
        Check.fits("\\[", ALIKE, "[");
        Check.fits("`", ALIKE, "`");
        Check.fits("_", ALIKE, "_");
        Check.fits("[a-c]", ALIKE, "ABCabc");
        Check.fits("[X-b]", ALIKE, "AB" + Check.signs('X', 'b') + "xyz");
        Check.fits("[^a]", ALIKE, Check.allBut("Aa"));
        Check.fits("[^A]", ALIKE, Check.allBut("Aa"));
        Check.fits("[^B-Y]", ALIKE, Check.allBut(Check.signs('B', 'Y') + Check.signs('b', 'y')));
        String letters = Check.signs('A', 'Z') + Check.signs('a', 'z');
        Check.fits("\\W", ALIKE, Check.allBut("0123456789_" + letters));
        Check.fits("[^\\w]", ALIKE, Check.allBut("0123456789_" + letters));
        Check.fits("\\D", ALIKE, Check.allBut("0123456789"));
        Check.fits(".", ALIKE, Check.allBut(""));
    }

    private static void fitsLines() {
        Check.fits(".", LINES, Check.allBut("/"));
        Check.fits("/", LINES, "/");
        Check.fits("[^a]", LINES, Check.allBut("a"));
        Check.fits("\\S", LINES, Check.allBut(" "));
        Check.finds("^b", 0, "a/b", "none");
        Check.finds("^b", LINES, "a/b", "2-3");
        Check.finds("a$", 0, "a/b", "none");
        Check.finds("a$", LINES, "a/b", "0-1");
        Check.finds("^$", LINES, "a//b", "2-2");
        Check.finds("^$", LINES, "a/", "2-2");
        Check.finds("^$", LINES, "/", "0-0");
        Check.finds("b$", LINES, "a/b", "2-3");
        Check.finds("a^", LINES, "a/b", "none");
        Check.finds("$a", LINES, "a/a", "none");
        Check.finds(".+$", LINES, "ab/c", "0-2");
        Check.finds(".+$", 0, "ab/c", "0-4");
    }

    private static void takesAlternatives() {
        Check.finds("a|ab", 0, "ab", "0-1");
        Check.finds("(?:a|ab)c", 0, "abc", "0-3");
        Check.finds("b|a", 0, "ab", "0-1");
        Check.finds("|a", 0, "a", "0-0");
        Check.finds("(a|ab)(c|bcd)(d*)", 0, "abcd", "0-4 1:0-1 2:1-4 3:4-4");
        Check.finds("(?:x|(y))z|yz", 0, "yz", "0-2 1:0-1");
    }

    private static void takesCounts() {
        Check.finds("a*", 0, "aaa", "0-3");
        Check.finds("a*?", 0, "aaa", "0-0");
        Check.finds("a+", 0, "aaa", "0-3");
        Check.finds("a+?", 0, "aaa", "0-1");
        Check.finds("a?", 0, "aaa", "0-1");
        Check.finds("a??", 0, "aaa", "0-0");
        Check.finds("a{2}", 0, "aaa", "0-2");
        Check.finds("a{4}", 0, "aaa", "none");
        Check.finds("a{2,}", 0, "aaa", "0-3");
        Check.finds("a{2,}?", 0, "aaa", "0-2");
        Check.finds("a{1,2}", 0, "aaa", "0-2");
        Check.finds("a{1,2}?", 0, "aaa", "0-1");
        Check.finds("a{1,2}?$", 0, "aaa", "1-3");
        Check.finds("a{0}b", 0, "ab", "1-2");
        Check.finds("(a){0}b", 0, "ab", "1-2 1:none");
        Check.finds("a*a", 0, "aaa", "0-3");
        Check.finds("(a*)(a*)", 0, "aa", "0-2 1:0-2 2:2-2");
        Check.finds("(a*?)(a*)", 0, "aa", "0-2 1:0-0 2:0-2");
        Check.finds("(a?)*", 0, "aa", "0-2 1:1-2");
        Check.finds("(a*)*", 0, "b", "0-0 1:none");
        Check.finds("(a*)+", 0, "b", "0-0 1:0-0");
        Check.finds("(a*){2}", 0, "b", "0-0 1:0-0");
        Check.finds("(?:a*?)*b", 0, "aab", "0-3");
        Check.finds("(?:){9}a", 0, "a", "0-1");
        Check.finds("(){0,3}a", 0, "a", "0-1 1:none");
        Check.finds("(){2,3}a", 0, "a", "0-1 1:0-0");
        Check.finds("(?:(a)|b)*?$", 0, "ab", "0-2 1:none");
        Check.finds("(?:a{2}){2}", 0, "aaaaa", "0-4");
        Check.finds("a*b*a*b*a*b*a*b*a*b*a*b*a*b*a*b*a*b*a*b*", 0, "abbaababbbabc", "0-12");
        Check.finds("(?:a|b{2,3}?)*c", 0, "abbabbbac", "0-9");
        Check.finds("(?:(?:ab){2}c){2}", 0, "ababcababc", "0-10");
    }

    private static void takesGroups() {
        Check.finds("(?:(a)|(b)|c)*", 0, "abcab", "0-5 1:none 2:4-5");
        Check.finds("(z)((a+)?(b+)?(c))*", 0, "zaacbbbcac",
            "0-10 1:0-1 2:8-10 3:8-9 4:none 5:9-10");
        Check.finds("(?:(a)|b)*", 0, "ab", "0-2 1:none");
        Check.finds("(?:(a)|b)*b", 0, "ab", "0-2 1:0-1");
        Check.finds("(?:(a)|(b))+?c", 0, "abc", "0-3 1:none 2:1-2");
        Check.finds("(a(b)?)+", 0, "aba", "0-3 1:2-3 2:none");
        Check.finds("((a)|b)*x|.", 0, "ab", "0-1 1:none 2:none");
        Check.finds("(a)|b", 0, "b", "0-1 1:none");
        Check.finds("((a)(b))", 0, "ab", "0-2 1:0-2 2:0-1 3:1-2");
    }

    private static void takesReferences() {
        Check.finds("(a+)\\1", 0, "aaaaa", "0-4 1:0-2");
        Check.finds("(ab)\\1", 0, "abAB", "none");
        Check.finds("(ab)\\1", ALIKE, "abAB", "0-4 1:0-2");
        Check.finds("(aB1-)\\1", ALIKE, "Ab1-aB1-", "0-8 1:0-4");
        Check.finds("(.)\\1", ALIKE, "@`[{", "none");
        Check.finds("(az)\\1", ALIKE, "AZaz", "0-4 1:0-2");
        Check.finds("\\1(a)", 0, "a", "0-1 1:0-1");
        Check.finds("(a\\1)", 0, "aa", "0-1 1:0-1");
        Check.finds("(?:(a)|b)\\1c", 0, "bc", "0-2 1:none");
        Check.finds("(?:(a)|b\\1)*c", 0, "abc", "0-3 1:none");
        Check.finds("(ab)\\1", 0, "aba", "none");
        Check.finds("()\\1a", 0, "a", "0-1 1:0-0");
        Check.finds("(a)\\10", 0, "aa0", "0-3 1:0-1");
        Check.finds("(?:(a)\\1?)*", 0, "aaa", "0-3 1:2-3");
    }

    private static void takesLooks() {
        Check.finds("a(?=b)", 0, "acab", "2-3");
        Check.finds("a(?!b)", 0, "abac", "2-3");
        Check.finds("(?=(a+))a*b\\1", 0, "baaabac", "3-6 1:3-4");
        Check.finds("(?=(a+?))a*b\\1", 0, "aaba", "0-4 1:0-1");
        Check.finds("(?=(a*))\\1a", 0, "aaa", "none");
        Check.finds("(?!(a)b)a\\1c", 0, "abac", "2-4 1:none");
        Check.finds("(?!a(b))[ab]+?(?!b)", 0, "abba", "1-3 1:none");
        Check.finds("(?!(?!(a)))\\1", 0, "a", "0-0 1:none");
        Check.finds("(?=(a))(?=(b)|)", 0, "a", "0-0 1:0-1 2:none");
        Check.finds("(?:(?=(a))b|(?=a).)", 0, "a", "0-1 1:none");
        Check.finds("(?:(?=(a|b))[ab])*", 0, "ab", "0-2 1:1-2");
        Check.finds("(?=a|ab)ab(?=$)", 0, "ab", "0-2");
        Check.finds("(?=)a", 0, "a", "0-1");
        Check.finds("(?=a(?=b))a", 0, "ab", "0-1");
        Check.finds("(?=a(?!c)b)(?!a(?=c))a", 0, "acab", "2-3");
        Check.finds("(?=)(?=)(?=)(?=)(?=)(?=)(?=)(?=)(?=)(?=)", 0, "a", "0-0");
        Check.finds("(?!b)(?!b)(?!b)(?!b)(?!b)(?!b)(?!b)(?!b)", 0, "ba", "1-1");
        Check.finds("(?!)|b", 0, "ab", "1-2");
        Check.finds("(?=(?=(?!b)a)a)(?!aa)a", 0, "aab", "1-2");
        Check.finds("(?:(a)|(b))*(?!c)", 0, "abc", "0-1 1:0-1 2:none");
    }

    private static void holdsManyChoices() {
        String text = "dddddddddddddddddddddddd";
        Check.finds("(?:(?:a*?b*?c*?d*?e*?f*?){5}d)*", 0, text, "0-24");
        Check.finds("(?:(?:a*?b*?c*?){9}d)*", 0, text, "0-24");
        Check.finds("(?:(?=((d)))(?:a??){9}(d|e))*", 0, text, "0-24 1:23-24 2:23-24 3:23-24");
        Check.finds("(?:((((((d)|e))))))*", 0, text,
            "0-24 1:23-24 2:23-24 3:23-24 4:23-24 5:23-24 6:23-24");
    }

    private static void throwsAboveFiveHundred() {
        PatternRunner most = Check.ready("a+?b|c|d", 0, "aaaaaaaaaaaaaaaaaaa");
        Check.is("500 steps are made", -1, most.find());
        Check.is("500 steps are made", 500, most.steps());
        PatternRunner more = Check.ready("(a+)+b", 0, "aaaaaa");
        Check.refuses("501 steps", UnsupportedOperationException.class, more::find);

        PatternRunner kept = Check.ready("a|(b+)+c", 0, "abbbbbbbbbbb");
        Check.is("the first is found", 0, kept.find());
        int before = kept.steps();
        Check.type(kept, "tt");
        Check.refuses("too many steps", UnsupportedOperationException.class, kept::find);
        Check.is("what was found stays", 0, kept.from(0));
        Check.is("what was found stays", 1, kept.to(0));
        Check.is("steps() stays", before, kept.steps());
        Check.refuses("START stays", UnsupportedOperationException.class, kept::find);
        kept.start(0);
        Check.is("the first once more", 0, kept.find());
        Check.is("what is typed stays", 2, Check.typedBeforeOneMore(kept));
    }
}
