/** The boundaries of what fits an atom of one sign, with all signs and all flags. */
public final class BoundaryFitTest {
    private static final String DIGITS = Check.signs('0', '9');
    private static final String CAPITALS = Check.signs('A', 'Z');
    private static final String SMALL = Check.signs('a', 'z');
    private static final String WORD = DIGITS + CAPITALS + "_" + SMALL;

    public static void main(String[] args) {
        fitsASignItself();
        fitsAnySign();
        fitsKinds();
        fitsSets();
        fitsTurnedSets();
        fitsAlikeAtTheEdgesOfLetters();
        takesFlagsAsBits();
        Check.end();
    }

    private static void fitsWithAllFlags(String atom, String due) {
        for (int flags = 0; flags <= 7; flags++) {
            Check.fits(atom, flags, due);
        }
    }

    private static boolean isAlike(int flags) {
        return (flags & Check.ALIKE) != 0;
    }

    private static boolean isLetter(char sign) {
        return (CAPITALS + SMALL).indexOf(sign) >= 0;
    }

    private static void fitsASignItself() {
        Check.sentence("WHAT FITS: a sign itself; when ALIKE, the same letter, small or capital");
        for (char sign = 32; sign <= 126; sign++) {
            boolean isSpecial = Check.SPECIAL.indexOf(sign) >= 0;
            String atom = isSpecial ? "\\" + sign : String.valueOf(sign);
            String both = "" + Character.toUpperCase(sign) + Character.toLowerCase(sign);
            for (int flags = 0; flags <= 7; flags++) {
                boolean fitsBoth = isAlike(flags) && isLetter(sign);
                Check.fits(atom, flags, fitsBoth ? both : String.valueOf(sign));
            }
        }
        fitsWithAllFlags("\\/", "/");
    }

    private static void fitsAnySign() {
        Check.sentence("\".\" each sign but, with LINES, \"/\"");
        for (int flags = 0; flags <= 7; flags++) {
            boolean isLines = (flags & Check.LINES) != 0;
            Check.fits(".", flags, Check.allBut(isLines ? "/" : ""));
        }
        fitsWithAllFlags("[.]", ".");
        fitsWithAllFlags("[^.]", Check.allBut("."));
    }

    private static void fitsKinds() {
        Check.sentence("\"\\d\" 0 .. 9; \"\\w\" letters, digits and \"_\"; \"\\s\" blanks; with "
            + "capital letters all others");
        for (String form : new String[] {"%s", "[%s]"}) {
            fitsWithAllFlags(form.replace("%s", "\\d"), DIGITS);
            fitsWithAllFlags(form.replace("%s", "\\D"), Check.allBut(DIGITS));
            fitsWithAllFlags(form.replace("%s", "\\w"), WORD);
            fitsWithAllFlags(form.replace("%s", "\\W"), Check.allBut(WORD));
            fitsWithAllFlags(form.replace("%s", "\\s"), " ");
            fitsWithAllFlags(form.replace("%s", "\\S"), Check.allBut(" "));
        }
        fitsWithAllFlags("[^\\d]", Check.allBut(DIGITS));
        fitsWithAllFlags("[^\\D]", DIGITS);
        fitsWithAllFlags("[^\\w]", Check.allBut(WORD));
        fitsWithAllFlags("[^\\W]", WORD);
        fitsWithAllFlags("[^\\s]", Check.allBut(" "));
        fitsWithAllFlags("[^\\S]", " ");
        fitsWithAllFlags("[\\d\\D]", Check.allBut(""));
        fitsWithAllFlags("[^\\w\\W]", "");
        fitsWithAllFlags("[\\d\\s]", " " + DIGITS);
    }

    private static void fitsSets() {
        Check.sentence("a set each sign that one of its members has");
        fitsWithAllFlags("[]", "");
        fitsWithAllFlags("[ -~]", Check.allBut(""));
        fitsWithAllFlags("[!-}]", Check.allBut(" ~"));
        fitsWithAllFlags("[0-9]", DIGITS);
        fitsWithAllFlags("[1-8]", Check.signs('1', '8'));
        fitsWithAllFlags("[ 0-4_~]", " 01234_~");
        fitsWithAllFlags("[0-42-6]", Check.signs('0', '6'));
        fitsWithAllFlags("[?-@]", "?@");
        fitsWithAllFlags("[>-?]", ">?");
        fitsWithAllFlags("[@]", "@");
        Check.fits("[a-z]", 0, SMALL);
        Check.fits("[A-Z]", 0, CAPITALS);
        Check.fits("[b-y]", 0, Check.signs('b', 'y'));
        Check.fits("[@-[]", 0, "@" + CAPITALS + "[");
        Check.fits("[`-{]", 0, "`" + SMALL + "{");
        Check.fits("[Zab]", 0, "Zab");
        Check.fits("[Z-a]", 0, Check.signs('Z', 'a'));
    }

    private static void fitsTurnedSets() {
        Check.sentence("or none when \"^\" is there (ALIKE: when it does not fit without \"^\")");
        fitsWithAllFlags("[^]", Check.allBut(""));
        fitsWithAllFlags("[^ -~]", "");
        fitsWithAllFlags("[^!-}]", " ~");
        fitsWithAllFlags("[^/]", Check.allBut("/"));
        fitsWithAllFlags("[^0-9A-Za-z]", Check.allBut(DIGITS + CAPITALS + SMALL));
        for (char sign : new char[] {'a', 'm', 'z', 'A', 'M', 'Z'}) {
            char small = Character.toLowerCase(sign);
            char capital = Character.toUpperCase(sign);
            Check.fits("[^" + sign + "]", 0, Check.allBut("" + sign));
            Check.fits("[^" + sign + "]", Check.ALIKE, Check.allBut("" + small + capital));
        }
        Check.fits("[^b-y]", 0, Check.allBut(Check.signs('b', 'y')));
        Check.fits("[^b-y]", Check.ALIKE,
            Check.allBut(Check.signs('b', 'y') + Check.signs('B', 'Y')));
        Check.fits("[^Z-a]", 0, Check.allBut(Check.signs('Z', 'a')));
        Check.fits("[^Z-a]", Check.ALIKE, Check.allBut("Az" + Check.signs('Z', 'a')));
        Check.fits("[^aB]", Check.ALIKE, Check.allBut("abAB"));
    }

    private static void fitsAlikeAtTheEdgesOfLetters() {
        Check.sentence("When ALIKE, a sign fits also if the same letter, small or capital, does");
        Check.fits("[a-z]", Check.ALIKE, CAPITALS + SMALL);
        Check.fits("[A-Z]", Check.ALIKE, CAPITALS + SMALL);
        Check.fits("[Z-a]", Check.ALIKE, "A" + Check.signs('Z', 'a') + "z");
        Check.fits("[@-A]", Check.ALIKE, "@Aa");
        Check.fits("[Z-[]", Check.ALIKE, "Z[z");
        Check.fits("[`-a]", Check.ALIKE, "A`a");
        Check.fits("[z-{]", Check.ALIKE, "Zz{");
        Check.fits("[[-`]", Check.ALIKE, Check.signs('[', '`'));
        Check.fits("[{-~]", Check.ALIKE, "{|}~");
        Check.fits("[ -@]", Check.ALIKE, Check.signs(' ', '@'));
        Check.fits("[0-9_]", Check.ALIKE, DIGITS + "_");
    }

    private static void takesFlagsAsBits() {
        Check.sentence("FLAGS are bits: 1 STICKY, 2 LINES, 4 ALIKE");
        for (int flags = 0; flags <= 7; flags++) {
            boolean isSticky = (flags & 1) != 0;
            boolean isLines = (flags & 2) != 0;
            Check.finds("b", flags, "ab", isSticky ? "none" : "1-2");
            Check.finds(".", flags, "/", isLines ? "none" : "0-1");
            Check.finds("$a?", flags, "/", isLines ? "0-0" : isSticky ? "none" : "1-1");
            Check.finds("A", flags, "a", isAlike(flags) ? "0-1" : "none");
            Check.finds("(a)\\1", flags, "aA", isAlike(flags) ? "0-2 1:0-1" : "none");
            boolean isAll = !isSticky && isLines && isAlike(flags);
            Check.finds("^b", flags, "a/B", isAll ? "2-3" : "none");
        }
    }
}
