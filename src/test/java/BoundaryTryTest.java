/** The boundaries of how a pattern is tried at a place, one sentence of the document each. */
public final class BoundaryTryTest {
    private static final int LINES = Check.LINES;
    private static final int ALIKE = Check.ALIKE;

    public static void main(String[] args) {
        takesTheLastChoiceAnew();
        failsAtTheEnd();
        seesNothingBehindTheEnd();
        passesLineBegins();
        passesLineEnds();
        takesAlternativesInOrder();
        takesGroupsWhenTheyEnd();
        passesReferences();
        failsReferencesAtTheEnd();
        passesReferencesAlike();
        looksAhead();
        looksThatNothingIsThere();
        clearsGroupsBeforeEachPass();
        passesTheLeastNumberOfTimes();
        choosesToPassOnceMore();
        failsWithoutMoving();
        doesNotPassWhenTheMostIsNone();
        hasManyCountsAndLooks();
        goesBackThroughManyChoices();
        bringsBackWhatGroupsTook();
        Check.end();
    }

    private static void takesTheLastChoiceAnew() {
        Check.sentence("when something FAILS, the last choice that has another way left is taken "
            + "anew, all that came behind it being as it was before (what groups took, too)");
        Check.finds("(a|ab)(b|bc|)(c|)$", 0, "abc", "0-3 1:0-1 2:1-2 3:2-3");
        Check.finds("(a|ab)(bc|c|b|)(d|)", 0, "abc", "0-3 1:0-1 2:1-3 3:3-3");
        Check.finds("(a*)(a*)(a*)b", 0, "aaab", "0-4 1:0-3 2:3-3 3:3-3");
        Check.finds("(a??)(a??)(a??)b", 0, "aab", "0-3 1:0-0 2:0-1 3:1-2");
        Check.finds("(?:(a)b|(a)c|ad)", 0, "ad", "0-2 1:none 2:none");
        Check.finds("(?:(a)|(b))*(?:bc|c)$", 0, "abc", "0-3 1:none 2:1-2");
        Check.finds("(?:(a)|(b))*bc", 0, "abc", "0-3 1:0-1 2:none");
        Check.finds("(?:(a)(b)?)*?(?:ab)*$", 0, "abab", "0-4 1:none 2:none");
        Check.finds("(?:(a+)(?=b)|(b))*c", 0, "aabc", "0-4 1:none 2:2-3");
        Check.finds("((a+)b)*a", 0, "aabaaba", "0-7 1:3-6 2:3-5");
        Check.finds("((a+)b)*aab", 0, "aabaab", "0-6 1:0-3 2:0-2");
        Check.sentence("When no choice is left, nothing is found at p");
        Check.finds("a|ab|abc", Check.STICKY, "b", "none");
        Check.finds("(?:a|b)*c", Check.STICKY, "abab", "none");
        Check.finds("(?:a|b)*c", Check.STICKY, "ababc", "0-5");
    }

    private static void failsAtTheEnd() {
        Check.sentence("it fails if p is the end or the sign at p does not fit; otherwise it goes "
            + "on at p + 1");
        String[] atoms = {"a", ".", "\\w", "\\D", "\\S", "[a]", "[^]", "[^b]"};
        for (String atom : atoms) {
            Check.finds(atom, 0, "", "none");
            Check.finds(atom, 0, "a", "0-1");
            Check.finds(atom + atom, 0, "a", "none");
            Check.finds(atom + atom, 0, "aa", "0-2");
            Check.finds(atom + "{0,9}", 0, "aaa", "0-3");
            Check.finds("^" + atom + "*$", 0, "a".repeat(24), "0-24");
            Check.finds("^" + atom + "*" + atom + "$", 0, "a".repeat(24), "0-24");
            Check.finds("(?=" + atom + ")$", 0, "a", "none");
            Check.finds("$(?!" + atom + ")", 0, "a", "1-1");
        }
        Check.finds("a", 0, "b", "none");
        Check.finds("ab", 0, "ac", "none");
    }

    private static void seesNothingBehindTheEnd() {
        Check.sentence("it fails if p is the end");
        PatternRunner runner = Check.ready("(ab)\\1|b$|^.{4}", 0, "abab");
        Check.is("the longer text", 0, runner.find());
        Check.text(runner, "aba");
        Check.is("the shorter text has nothing of the longer one", -1, runner.find());
        runner.text();
        Check.is("the empty text has nothing of it, either", -1, runner.find());
        Check.pattern(runner, ".|$", 0);
        Check.is("the end of the empty text", 0, runner.find());
        Check.is("the end of the empty text", 0, runner.to(0));
    }

    private static void passesLineBegins() {
        Check.sentence("\"^\" fails unless p is 0 (or, with LINES, there is \"/\" just before p)");
        for (int flags = 0; flags <= 7; flags += 2) {
            boolean isLines = (flags & LINES) != 0;
            Check.finds("^", flags, "", "0-0");
            Check.finds("^a", flags, "ab", "0-1");
            Check.finds("^b", flags, "ab", "none");
            Check.finds("^b", flags, "/b", isLines ? "1-2" : "none");
            Check.finds("^b", flags, "/ab", "none");
            Check.finds("^b", flags, "b/", "0-1");
            Check.finds("a^", flags, "a/b", "none");
            Check.finds("a\\/^b", flags, "a/b", isLines ? "0-3" : "none");
            Check.finds("[^]^", flags, "a/", isLines ? "1-2" : "none");
        }
        for (int flags = 0; flags <= 7; flags++) {
            boolean isLines = (flags & LINES) != 0;
            PatternRunner runner = Check.ready("^", flags, "a/b");
            runner.start(1);
            boolean isTriedBehind = (flags & Check.STICKY) == 0;
            Check.is("^ at 0, not at START", isLines && isTriedBehind ? 2 : -1, runner.find());
            runner.start(2);
            Check.is("^ behind /", isLines ? 2 : -1, runner.find());
            runner.start(3);
            Check.is("^ at the end", -1, runner.find());
        }
        PatternRunner full = Check.ready("^$", LINES, "a".repeat(23) + "/");
        Check.is("behind the 24th sign", 24, full.find());
    }

    private static void passesLineEnds() {
        Check.sentence("\"$\" unless p is the end (or, with LINES, \"/\" is at p)");
        for (int flags = 0; flags <= 7; flags += 2) {
            boolean isLines = (flags & LINES) != 0;
            Check.finds("$", flags, "", "0-0");
            Check.finds("a$", flags, "ba", "1-2");
            Check.finds("b$", flags, "ba", "none");
            Check.finds("b$", flags, "b/a", isLines ? "0-1" : "none");
            Check.finds("b$", flags, "ba/", "none");
            Check.finds("$", flags, "ab/", isLines ? "2-2" : "3-3");
            Check.finds("$a", flags, "a/a", "none");
            Check.finds("$\\/a", flags, "a/a", isLines ? "1-3" : "none");
            Check.finds("b$", flags, "/b", "1-2");
        }
        for (int flags = 0; flags <= 7; flags++) {
            boolean isLines = (flags & LINES) != 0;
            boolean isTriedBehind = (flags & Check.STICKY) == 0;
            PatternRunner runner = Check.ready("$", flags, "a/b");
            runner.start(1);
            Check.is("$ at /", isLines ? 1 : isTriedBehind ? 3 : -1, runner.find());
            runner.start(2);
            Check.is("$ behind /", isTriedBehind ? 3 : -1, runner.find());
            runner.start(3);
            Check.is("$ at the end", 3, runner.find());
        }
    }

    private static void takesAlternativesInOrder() {
        Check.sentence("Alternatives are a choice: the first one, then the second, and so on");
        Check.finds("a|ab|abc", 0, "abc", "0-1");
        Check.finds("abc|ab|a", 0, "abc", "0-3");
        Check.finds("(?:a|ab|abc)$", 0, "abc", "0-3");
        Check.finds("(?:x|y|)z|a", 0, "az", "0-1");
        Check.finds("(x)|(y)|(z)", 0, "z", "0-1 1:none 2:none 3:0-1");
        Check.finds("|a", 0, "a", "0-0");
        Check.finds("(?:|a)$", 0, "a", "0-1");
        Check.finds("b|a", 0, "ab", "0-1");
        Check.finds("a|b|c|d|e|f|g|h|i|j|k|l|m|n|o|p|q|r|s|t", 0, "t", "0-1");
    }

    private static void takesGroupsWhenTheyEnd() {
        Check.sentence("A group TAKES what is between the place where it began and where it ended "
            + "(when it ends)");
        Check.finds("(a)", 0, "ba", "1-2 1:1-2");
        Check.finds("a()b", 0, "ab", "0-2 1:1-1");
        Check.finds("(a(b)c)", 0, "abc", "0-3 1:0-3 2:1-2");
        Check.finds("(a\\1b)", 0, "ab", "0-2 1:0-2");
        Check.finds("(a\\1b)", 0, "aab", "1-3 1:1-3");
        Check.finds("((a)\\1\\2)", 0, "aa", "0-2 1:0-2 2:0-1");
        Check.finds("(a(?=b))", 0, "ab", "0-1 1:0-1");
        Check.finds("()", 0, "", "0-0 1:0-0");
        Check.finds("(.*)", 0, "a".repeat(24), "0-24 1:0-24");
        Check.finds("(a*)b?$", 0, "b", "0-1 1:0-0");
    }

    private static void passesReferences() {
        Check.sentence("A reference passes when the group has taken nothing");
        Check.finds("\\1(a)", 0, "aa", "0-1 1:0-1");
        Check.finds("(?:(a)|b)\\1c", 0, "bc", "0-2 1:none");
        Check.finds("(?:(a)|b)\\1c", 0, "aac", "0-3 1:0-1");
        Check.finds("(?:(a)|b)\\1c", 0, "ac", "none");
        Check.finds("(a)?\\1b", 0, "b", "0-1 1:none");
        Check.finds("(a){0}\\1b", 0, "ab", "1-2 1:none");
        Check.finds("(?!(a))\\1b", 0, "ab", "1-2 1:none");
        Check.finds("()\\1b", 0, "b", "0-1 1:0-0");
        Check.sentence("otherwise it fails unless the same signs stand at p, and goes on behind "
            + "them");
        Check.finds("(ab)\\1", 0, "abab", "0-4 1:0-2");
        Check.finds("(ab)\\1", 0, "abac", "none");
        Check.finds("(ab)\\1", 0, "abbb", "none");
        Check.finds("(a)(b)\\2\\1", 0, "abba", "0-4 1:0-1 2:1-2");
        Check.finds("(a)(b)\\2\\1", 0, "abab", "none");
        Check.finds("(a+)\\1b", 0, "aaaab", "0-5 1:0-2");
        Check.finds("^(.*)\\1$", 0, "abcdefghijklabcdefghijkl", "0-24 1:0-12");
        Check.finds("^(.*)\\1$", 0, "abcdefghijklabcdefghijkm", "none");
    }

    private static void failsReferencesAtTheEnd() {
        Check.sentence("it fails unless the same signs stand at p");
        Check.finds("(ab)\\1", 0, "ab", "none");
        Check.finds("(ab)\\1", 0, "aba", "none");
        Check.finds("(ab)\\1", 0, "abab", "0-4 1:0-2");
        Check.finds("(a)\\1", 0, "a", "none");
        Check.finds("(a)\\1", 0, "aa", "0-2 1:0-1");
        Check.finds("(.{8}).{8}\\1", 0, "abcdefgh........abcdefgh", "0-24 1:0-8");
        Check.finds("(.{9}).{8}\\1", 0, "abcdefgh.........abcdefgh".substring(0, 24), "none");
    }

    private static void passesReferencesAlike() {
        Check.sentence("ALIKE: the same letters");
        Check.finds("(.)\\1", ALIKE, "aA", "0-2 1:0-1");
        Check.finds("(.)\\1", ALIKE, "Aa", "0-2 1:0-1");
        Check.finds("(.)\\1", ALIKE, "zZ", "0-2 1:0-1");
        Check.finds("(.)\\1", ALIKE, "Zz", "0-2 1:0-1");
        Check.finds("(.)\\1", 0, "aA", "none");
        Check.finds("(.)\\1", ALIKE, "aB", "none");
        String[] notAlike = {"@`", "[{", "`@", "{[", "^~", "\\|", "]}", "0P", "_?", " @"};
        for (String two : notAlike) {
            Check.finds("(.)\\1", ALIKE, two, "none");
        }
        Check.finds("(.+)\\1", ALIKE, "a1_zA1_Z", "0-8 1:0-4");
        Check.finds("(.+)\\1", ALIKE, "a1_zA1_", "none");
    }

    private static void looksAhead() {
        Check.sentence("A look with \"=\" passes, without moving, if what is in it is found at p; "
            + "what groups took in it stays, but no choice in it is taken anew");
        Check.finds("(?=ab)a", 0, "aab", "1-2");
        Check.finds("(?=ab)", 0, "aab", "1-1");
        Check.finds("a(?=b)b", 0, "ab", "0-2");
        Check.finds("a(?=b)$", 0, "ab", "none");
        Check.finds("(?=)", 0, "", "0-0");
        Check.finds("(?=$)", 0, "ab", "2-2");
        Check.finds("(?=(a+))a", 0, "aaa", "0-1 1:0-3");
        Check.finds("(?=(a|ab))\\1c", 0, "abc", "none");
        Check.finds("(?=(ab|a))\\1c", 0, "abc", "0-3 1:0-2");
        Check.finds("(?=(a*))a*b\\1$", 0, "aba", "0-3 1:0-1");
        Check.finds("(?=(a*?))\\1b", 0, "ab", "1-2 1:1-1");
        Check.finds("(?:a|(?=(a|b))x|b)*c", 0, "abc", "0-3 1:none");
        Check.finds("(?:(?=(a))a|b)*c", 0, "abc", "0-3 1:none");
        Check.finds("(?:(?=(a)|b).)*?c", 0, "bac", "0-3 1:1-2");
        Check.finds("(a|ab)(?=(b|c))(?:c|bc)", 0, "abc", "0-3 1:0-1 2:1-2");
        Check.finds("(?=(?=(a))(?=(ab)))(?=(abc))", 0, "abc", "0-0 1:0-1 2:0-2 3:0-3");
        Check.finds("(a??)(?=b|ab)ab", 0, "aab", "0-3 1:0-1");
    }

    private static void looksThatNothingIsThere() {
        Check.sentence("One with \"!\" passes if nothing is found at p; groups are as before it");
        Check.finds("a(?!b)", 0, "aba", "2-3");
        Check.finds("a(?!b)", 0, "ab", "none");
        Check.finds("(?!)", 0, "a", "none");
        Check.finds("(?!a)", 0, "a", "1-1");
        Check.finds("(?!$)", 0, "", "none");
        Check.finds("(?!(a)b)a\\1", 0, "aa", "0-1 1:none");
        Check.finds("(a)(?!\\1)", 0, "aab", "1-2 1:1-2");
        Check.finds("(?!(?!(a)))a", 0, "a", "0-1 1:none");
        Check.finds("(?:(a)|b)*(?!(a)b|c)", 0, "ab", "0-2 1:none 2:none");
        Check.finds("(?=(a))(?!(b)|(a)b)\\1", 0, "aba", "2-3 1:2-3 2:none 3:none");
        Check.finds("(?!a|ab|b)", 0, "abc", "2-2");
        Check.finds("(?:(?!b)[^])*", 0, "aab", "0-2");
        Check.finds("(?:x|(?!a)b|a)*", 0, "xbab", "0-4");
    }

    private static void clearsGroupsBeforeEachPass() {
        Check.sentence("Each time before it is passed, all groups in it have taken nothing");
        Check.finds("(?:(a)|b)*", 0, "ab", "0-2 1:none");
        Check.finds("(?:(a)|b)*", 0, "ba", "0-2 1:1-2");
        Check.finds("(?:(a)|b){2}", 0, "ab", "0-2 1:none");
        Check.finds("(?:(a)|b)+?$", 0, "ab", "0-2 1:none");
        Check.finds("(?:(a)|b){0,9}", 0, "ab", "0-2 1:none");
        Check.finds("(a|\\1b)*", 0, "ab", "0-2 1:1-2");
        Check.finds("(?:(a)|\\1b)*", 0, "ab", "0-2 1:none");
        Check.finds("((a)|(b)|(c))*", 0, "abc", "0-3 1:2-3 2:none 3:none 4:2-3");
        Check.finds("(a)(?:(b)|c)*\\1", 0, "abca", "0-4 1:0-1 2:none");
        Check.finds("(?:(a)?b)*", 0, "abb", "0-3 1:none");
        Check.finds("(?:(?:(a)|b)*c)*", 0, "acbc", "0-4 1:none");
        Check.finds("(?:(a)|b)*(c)?(?:(d)|e)*", 0, "abcde", "0-5 1:none 2:2-3 3:none");
        Check.finds("(?:(?=(a))a|b)*", 0, "ab", "0-2 1:none");
        Check.finds("(a)?b*(?:c)*", 0, "abbcc", "0-5 1:0-1");
    }

    private static void passesTheLeastNumberOfTimes() {
        Check.sentence("It has to be passed the least number of times");
        Check.finds("(?:ab){2}", 0, "ab", "none");
        Check.finds("(?:ab){2}", 0, "abab", "0-4");
        Check.finds("(?:ab){2,}?", 0, "ababab", "0-4");
        Check.finds("(a*){3}", 0, "aa", "0-2 1:2-2");
        Check.finds("(a*?){3}$", 0, "aa", "0-2 1:0-2");
        Check.finds("(){9}a", 0, "a", "0-1 1:0-0");
        Check.finds("(?:a|){3}$", 0, "a", "0-1");
        Check.finds("(?:){2,}a", 0, "a", "0-1");
        Check.finds("(a?){2,3}?$", 0, "aaa", "0-3 1:2-3");
    }

    private static void choosesToPassOnceMore() {
        Check.sentence("After that, unless it was passed the most number of times, there is a "
            + "choice: EAGER to pass it once more, then not to; LAZY not to, then once more");
        Check.finds("(a*)(a*)", 0, "aa", "0-2 1:0-2 2:2-2");
        Check.finds("(a*?)(a*)", 0, "aa", "0-2 1:0-0 2:0-2");
        Check.finds("(a{1,2})(a*)", 0, "aaa", "0-3 1:0-2 2:2-3");
        Check.finds("(a{1,2}?)(a*)", 0, "aaa", "0-3 1:0-1 2:1-3");
        Check.finds("(a{1,2}?)(a?)$", 0, "aaa", "0-3 1:0-2 2:2-3");
        Check.finds("(a+)(ab)", 0, "aaab", "0-4 1:0-2 2:2-4");
        Check.finds("^a{2,4}$", 0, "aaaaa", "none");
        Check.finds("^a{2,4}?$", 0, "aaaa", "0-4");
        Check.finds("(?:a{1,2}){2}", 0, "aaaaa", "0-4");
        Check.finds("(?:a{1,2}?){2}", 0, "aaaaa", "0-2");
        Check.finds("(?:(?:ab?){2}c){2}$", 0, "aabcabac", "0-8");
    }

    private static void failsWithoutMoving() {
        Check.sentence("When it was passed once more so without moving, that fails");
        Check.finds("(a*)*", 0, "b", "0-0 1:none");
        Check.finds("(a*)*", 0, "aab", "0-2 1:0-2");
        Check.finds("(a*)+", 0, "b", "0-0 1:0-0");
        Check.finds("(a*)+", 0, "aab", "0-2 1:0-2");
        Check.finds("()?", 0, "", "0-0 1:none");
        Check.finds("(){0,1}", 0, "", "0-0 1:none");
        Check.finds("(){1,2}", 0, "", "0-0 1:0-0");
        Check.finds("(|a)*", 0, "aa", "0-2 1:1-2");
        Check.finds("(|a)+", 0, "aa", "0-2 1:1-2");
        Check.finds("(|a)*?$", 0, "aa", "0-2 1:1-2");
        Check.finds("(?:|a){2,3}", 0, "aa", "0-1");
        Check.finds("(?:(?=(a)))?a", 0, "a", "0-1 1:none");
        Check.finds("(?:(?=(a))){1,2}a", 0, "a", "0-1 1:0-1");
    }

    private static void doesNotPassWhenTheMostIsNone() {
        Check.sentence("(A count with the most 0: it is not passed at all.)");
        Check.finds("a{0}", 0, "a", "0-0");
        Check.finds("a{0,0}", 0, "a", "0-0");
        Check.finds("a{0}?$", 0, "a", "1-1");
        Check.finds("(a){0}a", 0, "a", "0-1 1:none");
        Check.finds("(?:(a)|b){0,0}\\1b", 0, "ab", "1-2 1:none");
        Check.finds("(?:(?!a)){0}", 0, "a", "0-0");
        Check.finds("[]{0}a", 0, "a", "0-1");
        Check.finds("a{0,1}", 0, "a", "0-1");
        Check.finds("(?:a{0}b)*", 0, "bbab", "0-2");
    }

    private static void hasManyCountsAndLooks() {
        Check.sentence("there would be more than 40");
        Check.finds("a?".repeat(20), 0, "a".repeat(24), "0-20");
        Check.finds("a?b*".repeat(10), 0, "abbab".repeat(4), "0-20");
        Check.finds("a+?".repeat(13) + "b", 0, "a".repeat(13) + "b", "0-14");
        Check.finds("(?=)".repeat(9) + "(?!)", 0, "a", "none");
        Check.finds("(?=)".repeat(10), 0, "a", "0-0");
        Check.finds("(?=(?=(?=(?=(?=(?=(?=(?=a))))))))", 0, "ba", "1-1");
        Check.finds("(?!(?!(?!(?!(?!(?!(?!(?!a))))))))", 0, "ba", "1-1");
        Check.finds("(?:(?:(?:(?:a*b)*c)*d)*e)*f", 0, "aabbcabcdabcdeabcdef", "0-20");
    }

    // All numbers of choices from 2 to 127 are gone back through.
    private static void goesBackThroughManyChoices() {
        Check.sentence("the last choice that has another way left is taken anew");
        for (int n = 0; n <= 24; n++) {
            for (int k = 0; k <= 5; k++) {
                Check.finds("(?:x??){" + k + "}(?:(?:x??){4}a)*?z|(a*)$", Check.STICKY,
                    "a".repeat(n), "0-" + n + " 1:0-" + n);
            }
            for (int groups = 1; groups <= 6; groups++) {
                String pass = "(".repeat(groups) + "a" + ")".repeat(groups);
                for (int empty = 0; empty <= 3; empty++) {
                    Check.finds("(?:){" + empty + "}(?:" + pass + ")*z|a*$", Check.STICKY,
                        "a".repeat(n), "0-" + n + nothingTaken(groups));
                }
            }
        }
    }

    // The last pass is begun and fails: what it forgot comes back. There are so many forms for
    // the sake of rows inside that are exactly full then.
    private static void bringsBackWhatGroupsTook() {
        Check.sentence("all that came behind it being as it was before (what groups took, too)");
        for (int n = 1; n <= 24; n++) {
            StringBuilder due = new StringBuilder("0-" + n + " 1:" + (n - 1) + "-" + n);
            for (int empty = 1; empty <= 6; empty++) {
                due.append(" " + (empty + 1) + ":" + (n - 1) + "-" + (n - 1));
                String counted = "(?:(?=(a))" + "()".repeat(empty) + "a)+$";
                bringsBackBehindEmptyPasses(counted, n, due.toString());
            }
        }
    }

    private static void bringsBackBehindEmptyPasses(String counted, int n, String due) {
        for (int i = 0; i <= 9; i++) {
            for (int j = 0; j <= 9; j += 3) {
                Check.finds("(?:){" + i + "}(?:){" + j + "}" + counted, Check.STICKY,
                    "a".repeat(n), due);
            }
        }
    }

    private static String nothingTaken(int groups) {
        StringBuilder all = new StringBuilder();
        for (int k = 1; k <= groups; k++) {
            all.append(' ').append(k).append(":none");
        }
        return all.toString();
    }
}
