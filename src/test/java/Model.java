import java.util.ArrayList;
import java.util.Arrays;
import java.util.Comparator;
import java.util.HashSet;
import java.util.LinkedHashMap;
import java.util.LinkedHashSet;
import java.util.List;
import java.util.Map;
import java.util.Random;
import java.util.Set;

/** The document once more, in the plainest way, to be compared with the class on random runs. */
final class Model {
    private static final Set<String> QUOTED = new HashSet<>(Arrays.asList(("class verb of stem to ending sound last "
        + "compound tense by part except lack all in person").split(" ")));
    private static final List<String> KINDS = Arrays.asList("stem", "ending", "sound", "compound", "except", "lack");

    static final class Rule {
        int kind;
        int owner = -1;
        int tense = -1;
        int person = -1;
        int helper;
        int helperTense;
        int part;
        boolean last;
        String first = "";
        String second = "";
    }

    static final class Book {
        final List<String> classes = new ArrayList<>();
        final Map<String, Integer> verbs = new LinkedHashMap<>();
        final List<Rule> rules = new ArrayList<>();
    }

    static final class Made {
        final String word;
        final List<Integer> row;

        Made(String word, List<Integer> row) {
            this.word = word;
            this.row = row;
        }
    }

    static final class Fault extends Exception {
        private static final long serialVersionUID = 1;
        final int kind;
        final int place;

        Fault(int kind, int place) {
            this.kind = kind;
            this.place = place;
        }
    }

    /** kind: w a word, n a number, l letters, s a semicolon, e the end, x none of these. */
    static final class Token {
        final char kind;
        final int place;
        final String text;

        Token(char kind, int place, String text) {
            this.kind = kind;
            this.place = place;
            this.text = text;
        }
    }

    private String tape = "";
    private Book book = new Book();
    private int faultKind = 0;
    private int faultPlace = -1;
    private List<int[]> read = new ArrayList<>();
    private List<int[]> explanation = null;
    private int[][] misses = new int[8][60];
    private List<List<List<Integer>>> latest = newLatest();

    private static List<List<List<Integer>>> newLatest() {
        List<List<List<Integer>>> all = new ArrayList<>();
        for (int l = 0; l < 8; l++) {
            all.add(new ArrayList<>());
        }
        return all;
    }

    // ---- the tape and the book

    int feed(int... five) {
        if (tape.length() + 20 > 4000) {
            return -3;
        }
        for (int i : five) {
            tape += "" + (char) (i >>> 24) + (char) (i >>> 16 & 255) + (char) (i >>> 8 & 255) + (char) (i & 255);
        }
        return tape.length();
    }

    int end(int n) {
        if (n < 0 || n > tape.length()) {
            return -1;
        }
        tape = tape.substring(0, n);
        return n;
    }

    private String taken() {
        String all = tape;
        tape = "";
        return all;
    }

    int book() {
        try {
            book = new Reader(taken()).all();
        } catch (Fault f) {
            faultKind = f.kind;
            faultPlace = f.place;
            return -1;
        }
        faultKind = 0;
        faultPlace = -1;
        read = new ArrayList<>();
        explanation = null;
        misses = new int[8][60];
        latest = newLatest();
        return book.rules.size();
    }

    int fault(int what) {
        return what == 0 ? faultKind : what == 1 ? faultPlace : -1;
    }

    private static final class Reader {
        private final List<Token> tokens = new ArrayList<>();
        private final Book out = new Book();
        private int i = 0;

        Reader(String text) {
            int p = 0;
            while (p < text.length()) {
                String rest = text.substring(p);
                String blanks = rest.replaceFirst("(?s)^([ \n]*).*$", "$1");
                if (!blanks.isEmpty()) {
                    p += blanks.length();
                    continue;
                }
                String word = rest.replaceFirst("(?s)^([a-z]*).*$", "$1");
                String number = rest.replaceFirst("(?s)^([0-9]*).*$", "$1");
                String letters = rest.matches("(?s)^'[a-z]{0,8}'.*$") ? rest.substring(0, rest.indexOf('\'', 1) + 1) : "";
                if (!word.isEmpty()) {
                    tokens.add(new Token(word.length() > 12 ? 'x' : 'w', p, word));
                    p += word.length();
                } else if (!number.isEmpty()) {
                    tokens.add(new Token(number.length() > 1 ? 'x' : 'n', p, number));
                    p += number.length();
                } else if (!letters.isEmpty()) {
                    tokens.add(new Token('l', p, letters.substring(1, letters.length() - 1)));
                    p += letters.length();
                } else {
                    tokens.add(new Token(rest.charAt(0) == ';' ? 's' : 'x', p, ""));
                    p++;
                }
            }
            tokens.add(new Token('e', text.length(), ""));
        }

        private Token now() {
            return tokens.get(i);
        }

        private boolean is(String word) {
            return now().kind == 'w' && now().text.equals(word);
        }

        private void need(boolean good, int kind) throws Fault {
            if (!good) {
                throw new Fault(kind, now().place);
            }
        }

        private void word(String due) throws Fault {
            need(is(due), 1);
            i++;
        }

        private String name() throws Fault {
            need(now().kind == 'w' && !QUOTED.contains(now().text), 1);
            return now().text;
        }

        private int classNamed() throws Fault {
            int c = out.classes.indexOf(name());
            need(c >= 0, 2);
            i++;
            return c;
        }

        private int verbNamed() throws Fault {
            int v = new ArrayList<>(out.verbs.keySet()).indexOf(name());
            need(v >= 0, 2);
            i++;
            return v;
        }

        private int number(String ahead, int most) throws Fault {
            word(ahead);
            need(now().kind == 'n', 1);
            int n = Integer.parseInt(now().text);
            need(n <= most, 3);
            i++;
            return n;
        }

        private String letters(boolean full) throws Fault {
            need(now().kind == 'l', 1);
            need(!full || !now().text.isEmpty(), 5);
            return tokens.get(i++).text;
        }

        private int where() throws Fault {
            if (is("all")) {
                i++;
                return -1;
            }
            word("in");
            return classNamed();
        }

        private void slot(Rule r) throws Fault {
            r.tense = number("tense", 4);
            r.person = is("person") ? number("person", 5) : -1;
        }

        Book all() throws Fault {
            while (now().kind != 'e') {
                item();
                need(now().kind == 's', 1);
                i++;
            }
            return out;
        }

        private void item() throws Fault {
            if (is("class")) {
                need(out.classes.size() < 6, 4);
                i++;
                need(!out.classes.contains(name()), 2);
                out.classes.add(name());
                i++;
            } else if (is("verb")) {
                need(out.verbs.size() < 30, 4);
                i++;
                String name = name();
                need(!out.verbs.containsKey(name), 2);
                i++;
                word("of");
                out.verbs.put(name, classNamed());
            } else {
                need(now().kind == 'w' && KINDS.contains(now().text), 1);
                need(out.rules.size() < 60, 4);
                Rule r = new Rule();
                r.kind = KINDS.indexOf(now().text);
                i++;
                rest(r);
                out.rules.add(r);
            }
        }

        private void rest(Rule r) throws Fault {
            if (r.kind == 0 || r.kind == 1 || r.kind == 3) {
                r.owner = where();
            }
            if (r.kind == 4 || r.kind == 5) {
                r.owner = verbNamed();
            }
            if (r.kind == 3) {
                r.tense = number("tense", 4);
                word("by");
                r.helper = verbNamed();
                r.helperTense = number("tense", 4);
                r.part = number("part", 4);
            } else if (r.kind != 2) {
                slot(r);
            }
            if (r.kind == 4) {
                need(now().kind == 'l', 1);
                need(out.rules.stream().filter(o -> o.kind == 4 && o.owner == r.owner && o.tense == r.tense
                    && o.person == r.person).count() < 2, 4);
            }
            if (r.kind != 3 && r.kind != 5) {
                r.first = letters(r.kind != 1);
            }
            if (r.kind == 0 || r.kind == 2) {
                word("to");
                r.second = letters(false);
            }
            if (r.kind == 2 && is("last")) {
                r.last = true;
                i++;
            }
        }
    }

    private String nameOf(int v) {
        return new ArrayList<>(book.verbs.keySet()).get(v);
    }

    int verb(int v, int what) {
        if (v < 0 || v >= book.verbs.size()) {
            return -1;
        }
        String name = nameOf(v);
        if (what == 0) {
            return book.verbs.get(name);
        }
        return what == 1 ? name.length() : what >= 10 && what - 10 < name.length() ? name.charAt(what - 10) : -1;
    }

    int line(int l, int what) {
        if (l < 0 || l >= book.rules.size() || what < 0 || what > 6) {
            return -9;
        }
        Rule r = book.rules.get(l);
        return new int[] {r.kind, r.owner, r.tense, r.person, r.first.length(), r.second.length(),
            r.kind == 3 ? r.helper : r.last ? 1 : 0}[what];
    }

    // ---- forms

    private boolean isPlace(int v, int t, int p) {
        return v >= 0 && v < book.verbs.size() && t >= 0 && t < 5 && p >= 0 && p < 6;
    }

    private List<Integer> fitting(int kind, int v, int t, int p) {
        List<Integer> all = new ArrayList<>();
        for (int l = 0; l < book.rules.size(); l++) {
            Rule r = book.rules.get(l);
            int who = kind >= 4 ? v : book.verbs.get(nameOf(v));
            if (r.kind == kind && (r.owner == -1 || r.owner == who) && r.tense == t && (r.person == -1 || r.person == p)) {
                all.add(l);
            }
        }
        return all;
    }

    private List<Made> made(int v, int t, int p, boolean compounds) {
        List<Made> all = new ArrayList<>();
        List<Integer> excepts = fitting(4, v, t, p);
        List<Integer> joint = fitting(3, v, t, p);
        if (!fitting(5, v, t, p).isEmpty()) {
            return all;
        }
        if (!excepts.isEmpty()) {
            for (int l : excepts.subList(0, Math.min(2, excepts.size()))) {
                all.add(new Made(book.rules.get(l).first, List.of(l)));
            }
        } else if (compounds && !joint.isEmpty()) {
            Rule r = book.rules.get(joint.get(0));
            for (Made h : made(r.helper, r.helperTense, p, false)) {
                for (Made m : made(v, r.part, 0, false)) {
                    List<Integer> row = new ArrayList<>(List.of(joint.get(0)));
                    row.addAll(h.row);
                    row.addAll(m.row);
                    if (h.word.length() + 1 + m.word.length() <= 30 && all.size() < 4) {
                        all.add(new Made(h.word + " " + m.word, row));
                    }
                }
            }
        } else if (!fitting(1, v, t, p).isEmpty()) {
            List<Integer> stems = fitting(0, v, t, p);
            Made m = regular(v, stems.isEmpty() ? -1 : stems.get(0), fitting(1, v, t, p).get(0), Set.of());
            if (m != null) {
                all.add(m);
            }
        }
        return all;
    }

    /** stem, ending: -1 for none. */
    private Made regular(int v, int stem, int ending, Set<Integer> leftOut) {
        String word = nameOf(v);
        List<Integer> row = new ArrayList<>();
        if (stem >= 0 && word.contains(book.rules.get(stem).first)) {
            Rule r = book.rules.get(stem);
            int at = word.lastIndexOf(r.first);
            word = word.substring(0, at) + r.second + word.substring(at + r.first.length());
            row.add(stem);
        }
        if (ending >= 0) {
            word += book.rules.get(ending).first;
            row.add(ending);
        }
        for (int l = 0; l < book.rules.size(); l++) {
            Rule r = book.rules.get(l);
            if (r.kind == 2 && !leftOut.contains(l)) {
                String old = word;
                if (!r.last) {
                    word = word.replace(r.first, r.second);
                } else if (word.endsWith(r.first)) {
                    word = word.substring(0, word.length() - r.first.length()) + r.second;
                }
                if (!word.equals(old)) {
                    row.add(l);
                }
                if (word.length() > 30) {
                    return null;
                }
            }
        }
        return word.isEmpty() ? null : new Made(word, row);
    }

    int forms(int v, int t, int p) {
        return isPlace(v, t, p) ? made(v, t, p, true).size() : -2;
    }

    private Made madeAt(int v, int t, int p, int k) {
        List<Made> all = isPlace(v, t, p) ? made(v, t, p, true) : new ArrayList<>();
        return k >= 0 && k < all.size() ? all.get(k) : null;
    }

    int form(int v, int t, int p, int k, int i) {
        Made m = madeAt(v, t, p, k);
        return m == null || i < 0 || i >= m.word.length() ? -1 : m.word.charAt(i);
    }

    int row(int v, int t, int p, int k, int i) {
        Made m = madeAt(v, t, p, k);
        return m == null || i < 0 || i >= m.row.size() ? -1 : m.row.get(i);
    }

    int rivals(int v, int t, int p) {
        return isPlace(v, t, p) ? fitting(1, v, t, p).size() : -2;
    }

    private List<int[]> places() {
        List<int[]> all = new ArrayList<>();
        for (int v = 0; v < book.verbs.size(); v++) {
            for (int t = 0; t < 5; t++) {
                for (int p = 0; p < 6; p++) {
                    all.add(new int[] {v, t, p});
                }
            }
        }
        return all;
    }

    int read() {
        String word = taken();
        read = new ArrayList<>();
        for (int[] at : places()) {
            if (made(at[0], at[1], at[2], true).stream().anyMatch(m -> m.word.equals(word))) {
                read.add(at);
            }
        }
        return read.size();
    }

    int place(int i, int what) {
        return i < 0 || i >= Math.min(60, read.size()) || what < 0 || what > 2 ? -1 : read.get(i)[what];
    }

    int users(int l) {
        if (l < 0 || l >= book.rules.size()) {
            return -2;
        }
        return (int) places().stream().filter(at -> made(at[0], at[1], at[2], true).stream()
            .anyMatch(m -> m.row.contains(l))).count();
    }

    int unused() {
        int n = 0;
        for (int l = 0; l < book.rules.size(); l++) {
            n += users(l) == 0 ? 1 : 0;
        }
        return n;
    }

    // ---- learners

    int answer(int l, int v, int t, int p) {
        String word = taken();
        if (l < 0 || l > 7 || !isPlace(v, t, p)) {
            return -2;
        }
        latest.get(l).add(List.of(v, t, p));
        List<Made> all = made(v, t, p, true);
        for (Made m : all) {
            if (m.word.equals(word)) {
                for (int line : new LinkedHashSet<>(m.row)) {
                    misses[l][line] = Math.max(0, misses[l][line] - 1);
                }
                return 0;
            }
        }
        if (all.isEmpty() || !fitting(3, v, t, p).isEmpty()) {
            return -5;
        }
        return explain(l, v, t, p, word);
    }

    /** All ways, each with its rank {cost, changes, stem, ending, sound, sound}, the least taken. */
    private int explain(int l, int v, int t, int p, String word) {
        int lines = book.rules.size();
        boolean excepts = !fitting(4, v, t, p).isEmpty();
        int ownStem = fitting(0, v, t, p).isEmpty() ? -1 : fitting(0, v, t, p).get(0);
        int ownEnding = fitting(1, v, t, p).isEmpty() ? -1 : fitting(1, v, t, p).get(0);
        List<int[]> ways = new ArrayList<>();
        for (int s = -2; s < lines; s++) {
            boolean someStem = s == -2 || s == -1 && ownStem >= 0 || s >= 0 && s != ownStem && book.rules.get(s).kind == 0;
            for (int e = -1; e <= lines && someStem; e++) {
                boolean someEnding = e == -1 && ownEnding >= 0 || e == lines
                    || e >= 0 && e < lines && e != ownEnding && book.rules.get(e).kind == 1;
                for (int a = -1; a < lines && someEnding; a++) {
                    for (int b = a == -1 ? lines - 1 : a; b < lines && (a < 0 || book.rules.get(a).kind == 2); b++) {
                        boolean two = a >= 0 && b > a;
                        if (two && book.rules.get(b).kind != 2) {
                            continue;
                        }
                        int changes = (excepts ? 1 : 0) + (s == -2 ? 0 : 1) + (e == -1 ? 0 : 1) + (a < 0 ? 0 : two ? 2 : 1);
                        int cost = (excepts ? 2 : 0) + (s == -2 ? 0 : s == -1 ? 2 : 3) + (e == -1 ? 0 : e == lines ? 4 : 3)
                            + (a < 0 ? 0 : two ? 4 : 2);
                        if (changes <= 2) {
                            Made m = regular(v, s == -2 ? ownStem : s, e == -1 ? ownEnding : e == lines ? -1 : e,
                                a < 0 ? Set.of() : two ? Set.of(a, b) : Set.of(a));
                            if (m != null && m.word.equals(word)) {
                                ways.add(new int[] {cost, changes, s, e, a, two ? b : -1});
                            }
                        }
                    }
                }
            }
        }
        if (ways.isEmpty()) {
            return -5;
        }
        int[] w = ways.stream().min(Comparator.comparing((int[] x) -> x[0]).thenComparing(x -> x[1]).thenComparing(x -> x[2])
            .thenComparing(x -> x[3]).thenComparing(x -> x[4]).thenComparing(x -> x[5])).get();
        explanation = new ArrayList<>();
        if (excepts) {
            explanation.add(new int[] {0, fitting(4, v, t, p).get(0), -1});
        }
        if (w[2] != -2) {
            explanation.add(w[2] == -1 ? new int[] {1, ownStem, -1} : new int[] {2, ownStem < 0 ? w[2] : ownStem, w[2]});
        }
        if (w[3] != -1) {
            explanation.add(w[3] == lines ? new int[] {4, ownEnding, -1} : new int[] {3, ownEnding < 0 ? w[3] : ownEnding, w[3]});
        }
        for (int k = 4; k < 6; k++) {
            if (w[k] >= 0) {
                explanation.add(new int[] {5, w[k], -1});
            }
        }
        Set<Integer> missed = new HashSet<>();
        explanation.forEach(c -> missed.add(c[1]));
        missed.remove(-1);
        for (int line : missed) {
            misses[l][line] = Math.min(99, misses[l][line] + 1);
        }
        return w[0];
    }

    /** What a learner who misses some rules there, up to three of them, might say. */
    String slipOf(int v, int t, int p, Random random) {
        List<Integer> stems = new ArrayList<>(List.of(-1));
        List<Integer> endings = new ArrayList<>(List.of(-1));
        Set<Integer> leftOut = new HashSet<>();
        for (int l = 0; l < book.rules.size(); l++) {
            if (book.rules.get(l).kind < 2) {
                (book.rules.get(l).kind == 0 ? stems : endings).add(l);
            } else if (book.rules.get(l).kind == 2 && random.nextInt(3) == 0) {
                leftOut.add(l);
            }
        }
        List<Integer> ownStems = fitting(0, v, t, p);
        List<Integer> ownEndings = fitting(1, v, t, p);
        int stem = random.nextInt(3) == 0 ? stems.get(random.nextInt(stems.size())) : ownStems.isEmpty() ? -1 : ownStems.get(0);
        int ending = random.nextInt(3) == 0 ? endings.get(random.nextInt(endings.size())) : ownEndings.isEmpty() ? -1 : ownEndings.get(0);
        Made m = regular(v, stem, ending, random.nextInt(3) == 0 ? Set.of() : leftOut);
        return m == null ? "" : m.word;
    }

    int change(int what) {
        if (explanation == null) {
            return -9;
        }
        if (what == 0) {
            return explanation.size();
        }
        for (int k = 0; k < 3; k++) {
            int i = what - 10 - 10 * k;
            if (i >= 0 && i < explanation.size()) {
                return explanation.get(i)[k];
            }
        }
        return -9;
    }

    int misses(int l, int line) {
        return l < 0 || l > 7 || line < 0 || line >= book.rules.size() ? -2 : misses[l][line];
    }

    int drill(int l) {
        if (l < 0 || l > 7) {
            return -2;
        }
        List<List<Integer>> had = latest.get(l);
        List<List<Integer>> three = had.subList(Math.max(0, had.size() - 3), had.size());
        int best = -1;
        int most = -1;
        for (int[] at : places()) {
            List<Made> all = made(at[0], at[1], at[2], true);
            if (!all.isEmpty() && !three.contains(List.of(at[0], at[1], at[2]))) {
                int sum = new HashSet<>(all.get(0).row).stream().mapToInt(line -> misses[l][line]).sum();
                if (sum > most) {
                    most = sum;
                    best = 100 * at[0] + 10 * at[1] + at[2];
                }
            }
        }
        return best;
    }

    int count(int what) {
        return what < 0 || what > 3 ? -1
            : new int[] {book.classes.size(), book.verbs.size(), book.rules.size(), tape.length()}[what];
    }
}
