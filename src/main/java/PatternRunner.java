import java.util.Arrays;
import java.util.NoSuchElementException;

/**
 * An engine for patterns over text: a pattern is read into a small program, the program is tried
 * at one place of the text after the other, and what is found can be looked at or replaced.
 */
public final class PatternRunner {
    private static final int FIRST_SIGN = 32;
    private static final int LAST_SIGN = 126;
    private static final char NO_SIGN = 0;

    private static final int STICKY = 1;
    private static final int LINES = 2;
    private static final int ALIKE = 4;
    private static final int ALL_FLAGS = 7;

    private static final int MOST_BYTES = 8;
    private static final int MOST_TYPED = 40;
    private static final int MOST_TEXT = 24;
    private static final int MOST_RESULT = 200;
    private static final int MOST_STEPS = 500;
    private static final int MOST_GROUPS = 9;
    private static final int MOST_NESTED = 8;
    private static final int MOST_WEIGHT = 120;
    // More than any atom can be passed in a text of 24 signs.
    private static final int ENDLESS = 1000000;

    // "a*" is the shortest atom with a count and "(?=)" the shortest look in a pattern of 40 signs.
    private static final int MOST_LOOPS = 20;
    private static final int MOST_LOOKS = 10;
    // No sign of a pattern makes more than two instructions; the whole makes two more.
    private static final int MOST_INSTRUCTIONS = 96;
    // Far above what 500 steps can need: each step is followed by fewer than 100 instructions.
    private static final int MOST_TURNS = 1000000;

    private static final int NONE = -1;
    private static final int FAILED = -1;
    private static final int FOUND = -2;

    private static final int FINISH = 0;
    private static final int ONE_SIGN = 1;
    private static final int LINE_BEGIN = 2;
    private static final int LINE_END = 3;
    private static final int REFERENCE = 4;
    private static final int ALTERNATIVE = 5;
    private static final int JUMP = 6;
    private static final int GROUP_BEGIN = 7;
    private static final int GROUP_END = 8;
    private static final int ENTER = 9;
    private static final int EAGER = 10;
    private static final int LAZY = 11;
    private static final int PASS = 12;
    private static final int LOOK = 13;
    private static final int LOOK_END = 14;
    private static final int LOOK_NOT = 15;
    private static final int LOOK_NOT_END = 16;

    // Where in the row of marks each kind of mark begins.
    private static final int GROUP_BEGAN = 0;
    private static final int TOOK_FROM = GROUP_BEGAN + MOST_GROUPS + 1;
    private static final int TOOK_TO = TOOK_FROM + MOST_GROUPS + 1;
    private static final int TIMES_PASSED = TOOK_TO + MOST_GROUPS + 1;
    private static final int PASS_BEGAN = TIMES_PASSED + MOST_LOOPS;
    private static final int LOOK_HEIGHT = PASS_BEGAN + MOST_LOOPS;
    private static final int LOOK_PLACE = LOOK_HEIGHT + MOST_LOOKS;
    private static final int ALL_MARKS = LOOK_PLACE + MOST_LOOKS;

    private static final String SPECIAL_SIGNS = "^$\\.*+?()[]{}|";
    private static final String KIND_LETTERS = "dwsDWS";

    private final SignRow typed;
    private final SignRow toRead;
    private final SignRow body;
    private SignRow written;
    private SignRow draft;
    private Program program;
    private Program spareProgram;
    private final Reader reader;
    private final Matcher matcher;
    private final int[] takenFrom;
    private final int[] takenTo;
    private int startPlace;
    private int stepsMade;

    public PatternRunner() {
        typed = new SignRow(MOST_TYPED);
        toRead = new SignRow(MOST_TYPED);
        body = new SignRow(MOST_TEXT);
        written = new SignRow(MOST_RESULT);
        draft = new SignRow(MOST_RESULT);
        program = new Program();
        spareProgram = new Program();
        reader = new Reader(toRead, program);
        matcher = new Matcher(body, program);
        takenFrom = new int[MOST_GROUPS + 1];
        takenTo = new int[MOST_GROUPS + 1];
        startPlace = 0;
        stepsMade = 0;
        forgetFound();
    }

    public int type(long signs, int n) throws IllegalArgumentException {
        if (n < 1 || n > MOST_BYTES) {
            throw new IllegalArgumentException("n is not 1 to 8");
        }
        if (typed.length() + n > MOST_TYPED) {
            throw new IllegalArgumentException("more than 40 signs would be typed");
        }
        for (int i = 0; i < n; i++) {
            int sign = byteOf(signs, i);
            if (sign < FIRST_SIGN || sign > LAST_SIGN) {
                throw new IllegalArgumentException("a byte is no sign");
            }
        }
        for (int i = 0; i < n; i++) {
            typed.add((char) byteOf(signs, i));
        }
        return typed.length();
    }

    public int pattern(int flags) throws IllegalArgumentException {
        if (flags < 0 || flags > ALL_FLAGS) {
            throw new IllegalArgumentException("flags are not 0 to 7");
        }
        // A refused pattern is no longer typed, either, so this goes before the reading.
        toRead.copy(typed);
        typed.clear();
        reader.read(flags, spareProgram);
        Program old = program;
        program = spareProgram;
        spareProgram = old;
        startPlace = 0;
        forgetFound();
        return program.groups();
    }

    public int text() throws IllegalStateException {
        if (typed.length() > MOST_TEXT) {
            throw new IllegalStateException("more than 24 signs are typed");
        }
        body.copy(typed);
        typed.clear();
        startPlace = 0;
        forgetFound();
        return body.length();
    }

    public int start(int place) throws IllegalArgumentException {
        if (place < 0 || place > MOST_TEXT) {
            throw new IllegalArgumentException("the place is not 0 to 24");
        }
        startPlace = place;
        return startPlace;
    }

    public int find() throws UnsupportedOperationException {
        int where = matcher.search(program, startPlace);
        stepsMade = matcher.stepsMade();
        if (where == NONE) {
            startPlace = 0;
            forgetFound();
            return NONE;
        }
        startPlace = matcher.tookTo(0);
        for (int k = 0; k < takenFrom.length && k < takenTo.length; k++) {
            takenFrom[k] = matcher.tookFrom(k);
            takenTo[k] = matcher.tookTo(k);
        }
        return where;
    }

    public int from(int k) {
        return k >= 0 && k < takenFrom.length ? takenFrom[k] : NONE;
    }

    public int to(int k) {
        return k >= 0 && k < takenTo.length ? takenTo[k] : NONE;
    }

    public int steps() {
        return stepsMade;
    }

    public int replace() throws UnsupportedOperationException {
        draft.clear();
        int count = 0;
        int searched = 0;
        int copied = 0;
        // Each find begins behind where the one before began, so there are no more than places.
        for (int turn = 0; turn <= MOST_TEXT; turn++) {
            int where = matcher.search(program, searched);
            if (where == NONE) {
                break;
            }
            int end = matcher.tookTo(0);
            writeText(copied, where);
            writeTemplate();
            copied = end;
            searched = end > where ? end : end + 1;
            count++;
        }
        writeText(copied, body.length());
        SignRow old = written;
        written = draft;
        draft = old;
        typed.clear();
        startPlace = 0;
        forgetFound();
        return count;
    }

    public char result(int place) throws NoSuchElementException {
        if (place < 0 || place >= written.length()) {
            throw new NoSuchElementException("the result has no such place");
        }
        return written.at(place);
    }

    private static int byteOf(long signs, int index) {
        return (int) (signs >>> (8 * index)) & 255;
    }

    private void forgetFound() {
        Arrays.fill(takenFrom, NONE);
        Arrays.fill(takenTo, NONE);
    }

    private void writeTemplate() {
        int i = 0;
        for (int part = 0; part < MOST_TYPED && i < typed.length(); part++) {
            i += writePart(i);
        }
    }

    /** Writes what the template says at a place; answers how many of its signs that took. */
    private int writePart(int i) {
        char sign = typed.at(i);
        char next = typed.at(i + 1);
        int group = next - '0';
        if (sign != '$') {
            write(sign);
            return 1;
        }
        if (next == '$') {
            write('$');
            return 2;
        }
        if (next == '&') {
            writeText(matcher.tookFrom(0), matcher.tookTo(0));
            return 2;
        }
        if (group >= 1 && group <= program.groups()) {
            writeText(matcher.tookFrom(group), matcher.tookTo(group));
            return 2;
        }
        write('$');
        return 1;
    }

    private void writeText(int begin, int end) {
        for (int i = begin; i < end; i++) {
            write(body.at(i));
        }
    }

    private void write(char sign) {
        if (!draft.add(sign)) {
            throw new UnsupportedOperationException("the result would have more than 200 signs");
        }
    }

    /** A row of signs with room for a fixed number of them. */
    private static final class SignRow {
        private final char[] signs;
        private int length;

        SignRow(int most) {
            signs = new char[Math.max(most, 0)];
            length = 0;
        }

        int length() {
            return length;
        }

        char at(int i) {
            return i >= 0 && i < length && i < signs.length ? signs[i] : NO_SIGN;
        }

        boolean add(char sign) {
            if (length < 0 || length >= signs.length) {
                return false;
            }
            signs[length] = sign;
            length++;
            return true;
        }

        void clear() {
            length = 0;
        }

        void copy(SignRow other) {
            clear();
            for (int i = 0; i < other.length(); i++) {
                add(other.at(i));
            }
        }
    }

    /** Some of the characters below 128, a bit for each. */
    private static final class SignSet {
        // In the upper half, each small letter stands 32 bits above its capital one.
        private static final long CAPITALS = 0x07FFFFFEL;
        private static final long WORD_SIGNS = CAPITALS | (CAPITALS << 32) | (1L << ('_' - 64));
        private static final long DIGITS = 0x03FFL << '0';
        private static final long BLANK = 1L << ' ';

        // Characters 0 to 63, and 64 to 127.
        private long lower;
        private long upper;

        long lower() {
            return lower;
        }

        long upper() {
            return upper;
        }

        void clear() {
            lower = 0;
            upper = 0;
        }

        void add(int sign) {
            if (sign < 64) {
                lower |= 1L << sign;
            } else {
                upper |= 1L << (sign - 64);
            }
        }

        void addRange(int first, int last) {
            for (int sign = first; sign <= last; sign++) {
                add(sign);
            }
        }

        void addKind(char letter) {
            switch (letter) {
                case 'd': addAll(DIGITS, 0L); break;
                case 'D': addAll(~DIGITS, ~0L); break;
                case 'w': addAll(DIGITS, WORD_SIGNS); break;
                case 'W': addAll(~DIGITS, ~WORD_SIGNS); break;
                case 's': addAll(BLANK, 0L); break;
                case 'S': addAll(~BLANK, ~0L); break;
                default: break;
            }
        }

        void addSameLetters() {
            long small = (upper & CAPITALS) << 32;
            long capital = (upper >>> 32) & CAPITALS;
            upper |= small | capital;
        }

        void turnRound() {
            lower = ~lower;
            upper = ~upper;
        }

        private void addAll(long inLower, long inUpper) {
            lower |= inLower;
            upper |= inUpper;
        }
    }

    /**
     * A pattern as instructions in a row. Each has a kind, perhaps an aim (another instruction)
     * and perhaps a number (of a group, a loop or a look). An atom with a count is a loop:
     * ENTER, the atom, EAGER or LAZY (where it is chosen to go on), PASS (which begins a pass).
     */
    private static final class Program {
        private final int[] kinds = new int[MOST_INSTRUCTIONS];
        private final int[] aims = new int[MOST_INSTRUCTIONS];
        private final int[] numbers = new int[MOST_INSTRUCTIONS];
        private final long[] lower = new long[MOST_INSTRUCTIONS];
        private final long[] upper = new long[MOST_INSTRUCTIONS];
        private int size;

        private final int[] leasts = new int[MOST_LOOPS];
        private final int[] mosts = new int[MOST_LOOPS];
        private final int[] firstGroups = new int[MOST_LOOPS];
        private final int[] lastGroups = new int[MOST_LOOPS];
        private int loops;

        private int looks;
        private int groups;
        private int flags;

        /** The empty pattern: one alternative with nothing in it. */
        Program() {
            kinds[0] = ALTERNATIVE;
            aims[0] = NONE;
            kinds[1] = FINISH;
            size = 2;
        }

        void clear(int newFlags) {
            size = 0;
            loops = 0;
            looks = 0;
            groups = 0;
            flags = newFlags;
        }

        int size() {
            return size;
        }

        int groups() {
            return groups;
        }

        boolean has(int flag) {
            return (flags & flag) != 0;
        }

        int kind(int at) {
            return isInstruction(at) ? kinds[at] : NONE;
        }

        int aim(int at) {
            return isInstruction(at) ? aims[at] : NONE;
        }

        int number(int at) {
            return isInstruction(at) ? numbers[at] : NONE;
        }

        boolean fits(int at, char sign) {
            if (!isInstruction(at)) {
                return false;
            }
            long half = sign < 64 ? lower[at] : upper[at];
            return ((half >>> (sign & 63)) & 1) != 0;
        }

        int least(int loop) {
            return isLoop(loop) ? leasts[loop] : 0;
        }

        int most(int loop) {
            return isLoop(loop) ? mosts[loop] : 0;
        }

        int firstGroup(int loop) {
            return isLoop(loop) ? firstGroups[loop] : 0;
        }

        int lastGroup(int loop) {
            return isLoop(loop) ? lastGroups[loop] : NONE;
        }

        int add(int kind, int aim, int number) {
            if (size < 0 || size >= MOST_INSTRUCTIONS) {
                throw new IllegalArgumentException("the pattern is too long");
            }
            kinds[size] = kind;
            aims[size] = aim;
            numbers[size] = number;
            size++;
            return size - 1;
        }

        void addOneSign(SignSet fitting) {
            int at = add(ONE_SIGN, NONE, NONE);
            if (isInstruction(at)) {
                lower[at] = fitting.lower();
                upper[at] = fitting.upper();
            }
        }

        void aimAt(int at, int aim) {
            if (isInstruction(at)) {
                aims[at] = aim;
            }
        }

        /** Sends all jumps of a chain, in which each one aims at the one before, to one place. */
        void aimChainAt(int lastJump, int aim) {
            int jump = lastJump;
            for (int i = 0; i < MOST_INSTRUCTIONS && jump != NONE; i++) {
                int before = aim(jump);
                aimAt(jump, aim);
                jump = before;
            }
        }

        int addGroup() {
            if (groups >= MOST_GROUPS) {
                throw new IllegalArgumentException("the pattern has more than 9 groups");
            }
            groups++;
            return groups;
        }

        int addLook() {
            if (looks >= MOST_LOOKS) {
                throw new IllegalArgumentException("the pattern has too many looks");
            }
            looks++;
            return looks - 1;
        }

        int addLoop(int least, int most, int firstGroup) {
            if (loops < 0 || loops >= MOST_LOOPS) {
                throw new IllegalArgumentException("the pattern has too many counts");
            }
            leasts[loops] = least;
            mosts[loops] = most;
            firstGroups[loops] = firstGroup;
            lastGroups[loops] = groups;
            loops++;
            return loops - 1;
        }

        private boolean isInstruction(int at) {
            return at >= 0 && at < size && at < MOST_INSTRUCTIONS;
        }

        private boolean isLoop(int loop) {
            return loop >= 0 && loop < loops && loop < MOST_LOOPS;
        }
    }

    /** Reads a pattern into a program, or throws when it is refused. Parts answer their weight. */
    private static final class Reader {
        private final SignRow source;
        private final SignSet fitting = new SignSet();
        private Program made;
        private int at;
        private int greatestReference;
        private int least;
        private int most;
        private boolean lazy;

        Reader(SignRow source, Program made) {
            this.source = source;
            this.made = made;
        }

        void read(int flags, Program into) {
            made = into;
            made.clear(flags);
            at = 0;
            greatestReference = 0;
            int weight = readAlternatives(0);
            if (at < source.length()) {
                throw new IllegalArgumentException("a sign stands where none can");
            }
            if (greatestReference > made.groups()) {
                throw new IllegalArgumentException("a reference is to no group");
            }
            checkWeight(weight);
            made.add(FINISH, NONE, NONE);
        }

        private static void checkWeight(int weight) {
            if (weight > MOST_WEIGHT) {
                throw new IllegalArgumentException("the pattern weighs more than 120");
            }
        }

        private boolean take(char sign) {
            if (source.at(at) != sign) {
                return false;
            }
            at++;
            return true;
        }

        private boolean takeOpening(char sign) {
            if (source.at(at) != '(' || source.at(at + 1) != '?' || source.at(at + 2) != sign) {
                return false;
            }
            at += 3;
            return true;
        }

        private int readAlternatives(int depth) {
            int begun = made.add(ALTERNATIVE, NONE, NONE);
            int weight = readRow(depth);
            int jump = NONE;
            for (int i = 0; i < MOST_TYPED && take('|'); i++) {
                jump = made.add(JUMP, jump, NONE);
                int next = made.add(ALTERNATIVE, NONE, NONE);
                made.aimAt(begun, next);
                begun = next;
                weight += 1 + readRow(depth);
            }
            made.aimChainAt(jump, made.size());
            return weight;
        }

        private int readRow(int depth) {
            int weight = 0;
            for (int i = 0; i < MOST_TYPED && rowGoesOn(); i++) {
                weight += readTerm(depth);
            }
            return weight;
        }

        private boolean rowGoesOn() {
            char sign = source.at(at);
            return sign != NO_SIGN && sign != '|' && sign != ')';
        }

        private int readTerm(int depth) {
            if (take('^')) {
                made.add(LINE_BEGIN, NONE, NONE);
                return 1;
            }
            if (take('$')) {
                made.add(LINE_END, NONE, NONE);
                return 1;
            }
            if (takeOpening('=')) {
                return readLook(LOOK, LOOK_END, depth);
            }
            if (takeOpening('!')) {
                return readLook(LOOK_NOT, LOOK_NOT_END, depth);
            }
            return readCountedAtom(depth);
        }

        private int readLook(int beginKind, int endKind, int depth) {
            int number = made.addLook();
            int begin = made.add(beginKind, NONE, number);
            int weight = readInside(depth);
            made.add(endKind, NONE, number);
            made.aimAt(begin, made.size());
            return weight;
        }

        private int readInside(int depth) {
            if (depth >= MOST_NESTED) {
                throw new IllegalArgumentException("more than 8 stand in one another");
            }
            int weight = readAlternatives(depth + 1);
            if (!take(')')) {
                throw new IllegalArgumentException("a bracket is not closed");
            }
            return weight + 1;
        }

        private int readCountedAtom(int depth) {
            int groupsBefore = made.groups();
            int enter = made.add(ENTER, NONE, NONE);
            int weight = readAtom(depth);
            if (!readCount()) {
                return weight;
            }
            int number = made.addLoop(least, most, groupsBefore + 1);
            int end = made.add(lazy ? LAZY : EAGER, NONE, number);
            made.add(PASS, enter + 1, number);
            made.aimAt(enter, end);
            int copies = most == ENDLESS ? least + 1 : Math.max(1, most);
            int counted = weight * copies + 2;
            // A part never outweighs the whole: refused here, weights stay small.
            checkWeight(counted);
            return counted;
        }

        private int readAtom(int depth) {
            if (takeOpening(':')) {
                return readInside(depth);
            }
            if (take('(')) {
                return readGroup(depth);
            }
            fitting.clear();
            if (take('\\')) {
                return readEscaped();
            }
            if (take('[')) {
                return readSet();
            }
            if (take('.')) {
                addAnySign();
                return addOneSign(false);
            }
            char sign = source.at(at);
            if (SPECIAL_SIGNS.indexOf(sign) >= 0) {
                throw new IllegalArgumentException("a sign stands where none can");
            }
            at++;
            fitting.add(sign);
            return addOneSign(false);
        }

        private int readGroup(int depth) {
            int number = made.addGroup();
            made.add(GROUP_BEGIN, NONE, number);
            int weight = readInside(depth);
            made.add(GROUP_END, NONE, number);
            return weight;
        }

        private void addAnySign() {
            if (made.has(LINES)) {
                fitting.addRange(FIRST_SIGN, '/' - 1);
                fitting.addRange('/' + 1, LAST_SIGN);
            } else {
                fitting.addRange(FIRST_SIGN, LAST_SIGN);
            }
        }

        private int addOneSign(boolean turned) {
            if (made.has(ALIKE)) {
                fitting.addSameLetters();
            }
            if (turned) {
                fitting.turnRound();
            }
            made.addOneSign(fitting);
            return 1;
        }

        private int readEscaped() {
            char sign = source.at(at);
            at++;
            if (sign >= '1' && sign <= '9') {
                int number = sign - '0';
                greatestReference = Math.max(greatestReference, number);
                made.add(REFERENCE, NONE, number);
                return 1;
            }
            if (KIND_LETTERS.indexOf(sign) >= 0) {
                fitting.addKind(sign);
            } else if (sign == '/' || SPECIAL_SIGNS.indexOf(sign) >= 0) {
                fitting.add(sign);
            } else {
                throw new IllegalArgumentException("a sign is behind \\ that can't be");
            }
            return addOneSign(false);
        }

        private int readSet() {
            boolean turned = take('^');
            boolean dashIsOwn = true;
            for (int i = 0; i < MOST_TYPED && !take(']'); i++) {
                dashIsOwn = readMember(dashIsOwn);
            }
            return addOneSign(turned);
        }

        /** Answers if it was a range: then a "-" right behind it is a mark of its own. */
        private boolean readMember(boolean dashIsOwn) {
            if (dashIsOwn && take('-')) {
                fitting.add('-');
                return false;
            }
            int first = readMark();
            if (source.at(at) != '-' || source.at(at + 1) == ']') {
                return false;
            }
            at++;
            int last = readMark();
            if (first == NONE || last == NONE || first > last) {
                throw new IllegalArgumentException("a range can't be so");
            }
            fitting.addRange(first, last);
            return true;
        }

        /** Adds a mark to what fits; answers its sign, or NONE when it is "\d" and so on. */
        private int readMark() {
            char sign = source.at(at);
            at++;
            if (sign == NO_SIGN) {
                throw new IllegalArgumentException("a set is not closed");
            }
            if (sign != '\\') {
                fitting.add(sign);
                return sign;
            }
            char escaped = source.at(at);
            at++;
            if (KIND_LETTERS.indexOf(escaped) >= 0) {
                fitting.addKind(escaped);
                return NONE;
            }
            if (escaped != '-' && escaped != '/' && SPECIAL_SIGNS.indexOf(escaped) < 0) {
                throw new IllegalArgumentException("a sign is behind \\ that can't be");
            }
            fitting.add(escaped);
            return escaped;
        }

        /** Answers if there is a count here; if so, it is in least, most and lazy. */
        private boolean readCount() {
            if (take('*')) {
                least = 0;
                most = ENDLESS;
            } else if (take('+')) {
                least = 1;
                most = ENDLESS;
            } else if (take('?')) {
                least = 0;
                most = 1;
            } else if (take('{')) {
                readBraces();
            } else {
                return false;
            }
            lazy = take('?');
            return true;
        }

        private void readBraces() {
            least = readDigit();
            most = least;
            if (take(',')) {
                most = source.at(at) == '}' ? ENDLESS : readDigit();
            }
            if (!take('}')) {
                throw new IllegalArgumentException("a count is not closed");
            }
            if (least > most) {
                throw new IllegalArgumentException("a count's n is greater than its m");
            }
        }

        private int readDigit() {
            char sign = source.at(at);
            if (sign < '0' || sign > '9') {
                throw new IllegalArgumentException("a count has no digit");
            }
            at++;
            return sign - '0';
        }
    }

    /**
     * What can be gone back to: the marks, the changes made to them, and the choices that have
     * another way left. Taking a choice anew undoes all changes that came behind it.
     */
    private static final class Past {
        // A choice takes three cells and a change two.
        private static final int FIRST_CHOICES = 192;
        private static final int FIRST_CHANGES = 512;

        private final int[] marks = new int[ALL_MARKS];
        // These two grow when they are full: few patterns need much, and 500 steps bound it.
        private int[] choices = new int[FIRST_CHOICES];
        private int[] changes = new int[FIRST_CHANGES];
        private int choicesUsed;
        private int changesUsed;
        private int placeBack;

        void clear() {
            Arrays.fill(marks, NONE);
            choicesUsed = 0;
            changesUsed = 0;
        }

        int mark(int index) {
            return index >= 0 && index < marks.length ? marks[index] : NONE;
        }

        void set(int index, int value) {
            if (index < 0 || index >= marks.length || marks[index] == value) {
                return;
            }
            if (changesUsed + 2 > changes.length) {
                changes = Arrays.copyOf(changes, changes.length * 2);
            }
            changes[changesUsed] = index;
            changes[changesUsed + 1] = marks[index];
            changesUsed += 2;
            marks[index] = value;
        }

        void choose(int otherWay, int place) {
            if (choicesUsed + 3 > choices.length) {
                choices = Arrays.copyOf(choices, choices.length * 2);
            }
            choices[choicesUsed] = otherWay;
            choices[choicesUsed + 1] = place;
            choices[choicesUsed + 2] = changesUsed;
            choicesUsed += 3;
        }

        int height() {
            return choicesUsed;
        }

        /** Takes the other ways of all choices above a height away; changes stay as they are. */
        void cut(int height) {
            if (height >= 0 && height < choicesUsed) {
                choicesUsed = height;
            }
        }

        /** Answers the other way of the last choice, or FAILED when no choice is left. */
        int goBack() {
            if (choicesUsed < 3 || choicesUsed > choices.length) {
                return FAILED;
            }
            choicesUsed -= 3;
            undoDownTo(choices[choicesUsed + 2]);
            placeBack = choices[choicesUsed + 1];
            return choices[choicesUsed];
        }

        int placeBack() {
            return placeBack;
        }

        private void undoDownTo(int used) {
            while (changesUsed > used && changesUsed >= 2 && changesUsed <= changes.length) {
                changesUsed -= 2;
                int index = changes[changesUsed];
                if (index >= 0 && index < marks.length) {
                    marks[index] = changes[changesUsed + 1];
                }
            }
        }
    }

    /** Tries a program at places of the text. */
    private static final class Matcher {
        private final SignRow body;
        private final Past past = new Past();
        private Program program;
        private int place;
        private int stepsMade;

        Matcher(SignRow body, Program program) {
            this.body = body;
            this.program = program;
        }

        int search(Program searched, int begin) {
            program = searched;
            stepsMade = 0;
            int last = program.has(STICKY) ? Math.min(begin, body.length()) : body.length();
            for (int p = begin; p <= last; p++) {
                if (isFoundAt(p)) {
                    return p;
                }
            }
            return NONE;
        }

        int stepsMade() {
            return stepsMade;
        }

        int tookFrom(int group) {
            return past.mark(TOOK_FROM + group);
        }

        int tookTo(int group) {
            return past.mark(TOOK_TO + group);
        }

        private boolean isFoundAt(int begin) {
            past.clear();
            place = begin;
            int at = 0;
            for (int turn = 0; turn < MOST_TURNS; turn++) {
                at = carryOut(at);
                if (at == FOUND) {
                    past.set(TOOK_FROM, begin);
                    past.set(TOOK_TO, place);
                    return true;
                }
                if (at == FAILED) {
                    at = past.goBack();
                    if (at == FAILED) {
                        return false;
                    }
                    place = past.placeBack();
                }
            }
            return false;
        }

        /** Answers the instruction to go on with, or FAILED, or FOUND. */
        private int carryOut(int at) {
            switch (program.kind(at)) {
                case FINISH: return FOUND;
                case ONE_SIGN: return passSign(at);
                case LINE_BEGIN: return isLineBegin() ? at + 1 : FAILED;
                case LINE_END: return isLineEnd() ? at + 1 : FAILED;
                case REFERENCE: return passReference(at);
                case ALTERNATIVE: return beginAlternative(at);
                case JUMP: return program.aim(at);
                case GROUP_BEGIN: return beginGroup(at);
                case GROUP_END: return endGroup(at);
                case ENTER: return enterLoop(at);
                case EAGER:
                case LAZY: return endPass(at);
                case PASS: return beginPass(at);
                case LOOK: return beginLook(at);
                case LOOK_END: return endLook(at);
                case LOOK_NOT: return beginLookNot(at);
                case LOOK_NOT_END: return endLookNot(at);
                default: return FAILED;
            }
        }

        private void countStep() {
            if (stepsMade >= MOST_STEPS) {
                throw new UnsupportedOperationException("more than 500 steps would be made");
            }
            stepsMade++;
        }

        private int passSign(int at) {
            countStep();
            if (place >= body.length() || !program.fits(at, body.at(place))) {
                return FAILED;
            }
            place++;
            return at + 1;
        }

        private boolean isLineBegin() {
            return place == 0 || (program.has(LINES) && body.at(place - 1) == '/');
        }

        private boolean isLineEnd() {
            return place == body.length() || (program.has(LINES) && body.at(place) == '/');
        }

        private int passReference(int at) {
            countStep();
            int group = program.number(at);
            int begin = tookFrom(group);
            int end = tookTo(group);
            if (begin == NONE) {
                return at + 1;
            }
            for (int i = begin; i < end; i++) {
                if (!isSame(body.at(i), body.at(place + i - begin))) {
                    return FAILED;
                }
            }
            place += end - begin;
            return at + 1;
        }

        private boolean isSame(char one, char other) {
            return one == other || (program.has(ALIKE) && small(one) == small(other));
        }

        private static int small(char sign) {
            return sign >= 'A' && sign <= 'Z' ? sign + 32 : sign;
        }

        private int beginAlternative(int at) {
            countStep();
            int next = program.aim(at);
            if (next != NONE) {
                past.choose(next, place);
            }
            return at + 1;
        }

        private int beginGroup(int at) {
            past.set(GROUP_BEGAN + program.number(at), place);
            return at + 1;
        }

        private int endGroup(int at) {
            int group = program.number(at);
            past.set(TOOK_FROM + group, past.mark(GROUP_BEGAN + group));
            past.set(TOOK_TO + group, place);
            return at + 1;
        }

        private int enterLoop(int at) {
            int end = program.aim(at);
            if (end == NONE) {
                return at + 1;
            }
            past.set(TIMES_PASSED + program.number(end), 0);
            return choosePass(end);
        }

        private int endPass(int at) {
            int loop = program.number(at);
            int times = past.mark(TIMES_PASSED + loop) + 1;
            if (times > program.least(loop) && past.mark(PASS_BEGAN + loop) == place) {
                return FAILED;
            }
            past.set(TIMES_PASSED + loop, times);
            return choosePass(at);
        }

        private int choosePass(int at) {
            int loop = program.number(at);
            int times = past.mark(TIMES_PASSED + loop);
            int once = at + 1;
            int leave = at + 2;
            if (times < program.least(loop)) {
                return once;
            }
            if (times >= program.most(loop)) {
                return leave;
            }
            boolean eager = program.kind(at) == EAGER;
            past.choose(eager ? leave : once, place);
            return eager ? once : leave;
        }

        private int beginPass(int at) {
            int loop = program.number(at);
            past.set(PASS_BEGAN + loop, place);
            for (int group = program.firstGroup(loop); group <= program.lastGroup(loop); group++) {
                past.set(TOOK_FROM + group, NONE);
                past.set(TOOK_TO + group, NONE);
            }
            return program.aim(at);
        }

        private int beginLook(int at) {
            int look = program.number(at);
            past.set(LOOK_HEIGHT + look, past.height());
            past.set(LOOK_PLACE + look, place);
            return at + 1;
        }

        private int endLook(int at) {
            int look = program.number(at);
            past.cut(past.mark(LOOK_HEIGHT + look));
            place = past.mark(LOOK_PLACE + look);
            return at + 1;
        }

        private int beginLookNot(int at) {
            past.set(LOOK_HEIGHT + program.number(at), past.height());
            // This choice is come to when nothing in the look is found, and taken away otherwise.
            past.choose(program.aim(at), place);
            return at + 1;
        }

        private int endLookNot(int at) {
            past.cut(past.mark(LOOK_HEIGHT + program.number(at)));
            return FAILED;
        }
    }
}
