import java.util.ArrayList;
import java.util.Arrays;
import java.util.List;
import java.util.NoSuchElementException;

/**
 * The document once more, written another way than the program: a pattern is a tree, what comes
 * behind a part is handed to it as a function, and what groups took is copied and never changed.
 */
final class Reference {
    private static final String SPECIAL = "^$\\.*+?()[]{}|";

    /** What comes behind a part: null if it fails, otherwise where all ended and what was taken. */
    private interface Rest {
        Found go(int place, int[] taken);
    }

    private interface Node {
        Found match(int place, int[] taken, Rest rest);
    }

    private interface Fit {
        boolean has(char sign);
    }

    private static final class Found {
        final int end;
        final int[] taken;

        Found(int end, int[] taken) {
            this.end = end;
            this.taken = taken;
        }
    }

    private static final class Part {
        final Node node;
        final long weight;

        Part(Node node, long weight) {
            this.node = node;
            this.weight = weight;
        }
    }

    private static final class Refused extends Exception {
        private static final long serialVersionUID = 1L;
    }

    private String typed = "";
    private String text = "";
    private String result = "";
    private Node pattern;
    private int groups;
    private int flags;
    private int start;
    private int foundAt = -1;
    private Found found;
    private int steps;

    private int counted;
    private int limit;

    private String source;
    private int at;
    private int groupsRead;
    private int flagsRead;
    private int reference;

    Reference() {
        try {
            pattern = read("", 0);
        } catch (Refused e) {
            throw new AssertionError(e);
        }
    }

    int type(String signs) {
        if (signs.length() < 1 || typed.length() + signs.length() > 40) {
            throw new IllegalArgumentException();
        }
        for (char sign : signs.toCharArray()) {
            if (sign < 32 || sign > 126) {
                throw new IllegalArgumentException();
            }
        }
        typed += signs;
        return typed.length();
    }

    int pattern(int newFlags) {
        if (newFlags < 0 || newFlags > 7) {
            throw new IllegalArgumentException();
        }
        String read = typed;
        typed = "";
        try {
            pattern = read(read, newFlags);
        } catch (Refused e) {
            throw new IllegalArgumentException(e);
        }
        groups = groupsRead;
        flags = newFlags;
        start = 0;
        found = null;
        return groups;
    }

    int text() {
        if (typed.length() > 24) {
            throw new IllegalStateException();
        }
        text = typed;
        typed = "";
        start = 0;
        found = null;
        return text.length();
    }

    int start(int place) {
        if (place < 0 || place > 24) {
            throw new IllegalArgumentException();
        }
        start = place;
        return place;
    }

    int find() {
        int before = foundAt;
        Found now;
        try {
            now = search(start, 500);
        } catch (UnsupportedOperationException e) {
            foundAt = before;
            throw e;
        }
        steps = counted;
        found = now;
        start = now == null ? 0 : now.end;
        return now == null ? -1 : foundAt;
    }

    int from(int k) {
        if (found == null || k < 0 || k > groups) {
            return -1;
        }
        return k == 0 ? foundAt : found.taken[2 * k];
    }

    int to(int k) {
        if (found == null || k < 0 || k > groups) {
            return -1;
        }
        return k == 0 ? found.end : found.taken[2 * k + 1];
    }

    int steps() {
        return steps;
    }

    int replace() {
        int before = foundAt;
        try {
            String template = typed;
            StringBuilder all = new StringBuilder();
            int count = 0;
            int copied = 0;
            Found now = search(0, 500);
            while (now != null) {
                all.append(text, copied, foundAt).append(filled(template, now));
                copied = now.end;
                count++;
                now = search(now.end == foundAt ? now.end + 1 : now.end, 500);
            }
            all.append(text.substring(copied));
            if (all.length() > 200) {
                throw new UnsupportedOperationException();
            }
            result = all.toString();
            typed = "";
            start = 0;
            found = null;
            return count;
        } catch (UnsupportedOperationException e) {
            foundAt = before;
            throw e;
        }
    }

    char result(int place) {
        if (place < 0 || place >= result.length()) {
            throw new NoSuchElementException();
        }
        return result.charAt(place);
    }

    int resultLength() {
        return result.length();
    }

    int stepsOfSearch(int from, int most) {
        try {
            search(from, most);
            return counted;
        } catch (UnsupportedOperationException e) {
            return most + 1;
        }
    }

    private String filled(String template, Found now) {
        StringBuilder all = new StringBuilder();
        String left = template;
        while (!left.isEmpty()) {
            if (left.startsWith("$$")) {
                all.append('$');
                left = left.substring(2);
            } else if (left.startsWith("$&")) {
                all.append(text, foundAt, now.end);
                left = left.substring(2);
            } else if (left.matches("\\$[1-9].*") && left.charAt(1) - '0' <= groups) {
                int k = left.charAt(1) - '0';
                if (now.taken[2 * k] >= 0) {
                    all.append(text, now.taken[2 * k], now.taken[2 * k + 1]);
                }
                left = left.substring(2);
            } else {
                all.append(left.charAt(0));
                left = left.substring(1);
            }
        }
        return all.toString();
    }

    private Found search(int from, int most) {
        counted = 0;
        limit = most;
        for (int p = from; p <= text.length(); p++) {
            int[] nothing = new int[20];
            Arrays.fill(nothing, -1);
            Found now = pattern.match(p, nothing, Found::new);
            if (now != null) {
                foundAt = p;
                return now;
            }
            if ((flags & 1) != 0) {
                return null;
            }
        }
        return null;
    }

    private void step() {
        counted++;
        if (counted > limit) {
            throw new UnsupportedOperationException();
        }
    }

    private Node read(String signs, int newFlags) throws Refused {
        source = signs;
        at = 0;
        groupsRead = 0;
        flagsRead = newFlags;
        reference = 0;
        Part all = alternatives(0);
        if (at < source.length() || all.weight > 120 || reference > groupsRead || groupsRead > 9) {
            throw new Refused();
        }
        return all.node;
    }

    private boolean ahead(String signs) {
        return source.startsWith(signs, at);
    }

    private boolean taken(String signs) {
        if (ahead(signs)) {
            at += signs.length();
            return true;
        }
        return false;
    }

    private char sign() throws Refused {
        if (at >= source.length()) {
            throw new Refused();
        }
        return source.charAt(at++);
    }

    private Part alternatives(int depth) throws Refused {
        if (depth > 8) {
            throw new Refused();
        }
        List<Node> all = new ArrayList<>();
        long weight = -1;
        do {
            List<Node> row = new ArrayList<>();
            while (at < source.length() && !ahead("|") && !ahead(")")) {
                Part term = term(depth);
                row.add(term.node);
                weight += term.weight;
            }
            all.add((p, c, rest) -> inRow(row, 0, p, c, rest));
            weight++;
        } while (taken("|"));
        return new Part((p, c, rest) -> {
            for (Node one : all) {
                step();
                Found now = one.match(p, c, rest);
                if (now != null) {
                    return now;
                }
            }
            return null;
        }, weight);
    }

    private Found inRow(List<Node> row, int i, int p, int[] c, Rest rest) {
        if (i == row.size()) {
            return rest.go(p, c);
        }
        return row.get(i).match(p, c, (q, d) -> inRow(row, i + 1, q, d, rest));
    }

    private Part closed(int depth) throws Refused {
        Part inside = alternatives(depth + 1);
        if (!taken(")")) {
            throw new Refused();
        }
        return new Part(inside.node, inside.weight + 1);
    }

    private Part term(int depth) throws Refused {
        boolean lines = (flagsRead & 2) != 0;
        if (taken("^")) {
            return new Part((p, c, rest) -> p == 0 || lines && text.charAt(p - 1) == '/'
                ? rest.go(p, c) : null, 1);
        }
        if (taken("$")) {
            return new Part((p, c, rest) -> p == text.length() || lines && text.charAt(p) == '/'
                ? rest.go(p, c) : null, 1);
        }
        if (taken("(?=")) {
            Part inside = closed(depth);
            return new Part((p, c, rest) -> {
                Found now = inside.node.match(p, c, Found::new);
                return now == null ? null : rest.go(p, now.taken);
            }, inside.weight);
        }
        if (taken("(?!")) {
            Part inside = closed(depth);
            return new Part((p, c, rest) ->
                inside.node.match(p, c, Found::new) == null ? rest.go(p, c) : null, inside.weight);
        }
        int before = groupsRead;
        Part atom = atom(depth);
        return counted(atom, before, groupsRead);
    }

    private Part counted(Part atom, int before, int after) throws Refused {
        int least;
        int most;
        boolean endless = false;
        if (taken("*")) {
            least = 0;
            most = 0;
            endless = true;
        } else if (taken("+")) {
            least = 1;
            most = 1;
            endless = true;
        } else if (taken("?")) {
            least = 0;
            most = 1;
        } else if (taken("{")) {
            least = digit();
            most = least;
            if (taken(",")) {
                endless = ahead("}");
                most = endless ? least : digit();
            }
            if (!taken("}") || least > most) {
                throw new Refused();
            }
        } else {
            return atom;
        }
        boolean lazy = taken("?");
        Count count = new Count(atom.node, least, endless ? Integer.MAX_VALUE : most, lazy,
            before, after);
        long times = endless ? least + 1 : Math.max(1, most);
        return new Part((p, c, rest) -> count.go(0, p, c, rest), atom.weight * times + 2);
    }

    private int digit() throws Refused {
        char sign = sign();
        if (sign < '0' || sign > '9') {
            throw new Refused();
        }
        return sign - '0';
    }

    private static final class Count {
        private final Node atom;
        private final int least;
        private final int most;
        private final boolean lazy;
        private final int before;
        private final int after;

        Count(Node atom, int least, int most, boolean lazy, int before, int after) {
            this.atom = atom;
            this.least = least;
            this.most = most;
            this.lazy = lazy;
            this.before = before;
            this.after = after;
        }

        Found go(int times, int p, int[] c, Rest rest) {
            if (times < least) {
                return pass(times, p, c, rest);
            }
            if (times == most) {
                return rest.go(p, c);
            }
            if (lazy) {
                Found now = rest.go(p, c);
                return now != null ? now : pass(times, p, c, rest);
            }
            Found now = pass(times, p, c, rest);
            return now != null ? now : rest.go(p, c);
        }

        private Found pass(int times, int p, int[] c, Rest rest) {
            int[] cleared = c.clone();
            for (int group = before + 1; group <= after && group <= 9; group++) {
                cleared[2 * group] = -1;
                cleared[2 * group + 1] = -1;
            }
            return atom.match(p, cleared, (q, d) ->
                times >= least && q == p ? null : go(times + 1, q, d, rest));
        }
    }

    private Part atom(int depth) throws Refused {
        if (taken("(?:")) {
            return closed(depth);
        }
        if (taken("(")) {
            groupsRead++;
            int group = groupsRead;
            Part inside = closed(depth);
            return new Part((p, c, rest) -> inside.node.match(p, c, (q, d) -> {
                int[] now = d.clone();
                now[2 * group] = p;
                now[2 * group + 1] = q;
                return rest.go(q, now);
            }), inside.weight);
        }
        if (taken("[")) {
            return one(set());
        }
        if (taken(".")) {
            boolean lines = (flagsRead & 2) != 0;
            return one(sign -> !lines || sign != '/');
        }
        if (taken("\\")) {
            return escaped();
        }
        char sign = sign();
        if (SPECIAL.indexOf(sign) >= 0) {
            throw new Refused();
        }
        return one(alike(other -> other == sign));
    }

    private Part escaped() throws Refused {
        char sign = sign();
        if (sign >= '1' && sign <= '9') {
            int group = sign - '0';
            reference = Math.max(reference, group);
            boolean alike = (flagsRead & 4) != 0;
            return new Part((p, c, rest) -> {
                step();
                if (c[2 * group] < 0) {
                    return rest.go(p, c);
                }
                int length = c[2 * group + 1] - c[2 * group];
                return text.regionMatches(alike, p, text, c[2 * group], length)
                    ? rest.go(p + length, c) : null;
            }, 1);
        }
        Fit kind = kind(sign);
        if (kind != null) {
            return one(kind);
        }
        if (sign != '/' && SPECIAL.indexOf(sign) < 0) {
            throw new Refused();
        }
        return one(other -> other == sign);
    }

    private static Fit kind(char letter) {
        switch (letter) {
            case 'd': return sign -> "0123456789".indexOf(sign) >= 0;
            case 'D': return sign -> "0123456789".indexOf(sign) < 0;
            case 'w': return sign -> Character.isLetterOrDigit(sign) || sign == '_';
            case 'W': return sign -> !Character.isLetterOrDigit(sign) && sign != '_';
            case 's': return sign -> sign == ' ';
            case 'S': return sign -> sign != ' ';
            default: return null;
        }
    }

    private Fit alike(Fit fit) {
        if ((flagsRead & 4) == 0) {
            return fit;
        }
        return sign -> fit.has(sign) || fit.has(Character.toLowerCase(sign))
            || fit.has(Character.toUpperCase(sign));
    }

    private Part one(Fit fit) {
        return new Part((p, c, rest) -> {
            step();
            return p < text.length() && fit.has(text.charAt(p)) ? rest.go(p + 1, c) : null;
        }, 1);
    }

    private Fit set() throws Refused {
        boolean turned = taken("^");
        List<Fit> members = new ArrayList<>();
        boolean first = true;
        boolean behindRange = false;
        while (!taken("]")) {
            if ((first || behindRange) && taken("-")) {
                members.add(sign -> sign == '-');
                first = false;
                behindRange = false;
                continue;
            }
            first = false;
            int begin = at;
            Fit mark = mark();
            char low = source.charAt(at - 1);
            boolean kind = isKind(begin);
            behindRange = ahead("-") && !ahead("-]");
            if (!behindRange) {
                members.add(mark);
                continue;
            }
            at++;
            begin = at;
            mark();
            char high = source.charAt(at - 1);
            if (kind || isKind(begin) || low > high) {
                throw new Refused();
            }
            members.add(sign -> sign >= low && sign <= high);
        }
        Fit any = alike(sign -> members.stream().anyMatch(member -> member.has(sign)));
        return turned ? sign -> !any.has(sign) : any;
    }

    private boolean isKind(int begin) {
        return at == begin + 2 && kind(source.charAt(begin + 1)) != null;
    }

    private Fit mark() throws Refused {
        char sign = sign();
        if (sign != '\\') {
            return other -> other == sign;
        }
        char behind = sign();
        Fit kind = kind(behind);
        if (kind != null) {
            return kind;
        }
        if (behind != '/' && behind != '-' && SPECIAL.indexOf(behind) < 0) {
            throw new Refused();
        }
        return other -> other == behind;
    }
}
