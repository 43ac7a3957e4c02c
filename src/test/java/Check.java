/** What the tests share: a school fed with texts, and the tally of answers that are not as due. */
final class Check {
    private final String title;
    private int wrong;

    Check(String title) {
        this.title = title;
    }

    void due(String what, long got, long want) {
        if (got != want) {
            wrong++;
            System.out.println(title + ": " + what + " answered " + got + ", due is " + want);
        }
    }

    void due(String what, String got, String want) {
        if (!want.equals(got)) {
            wrong++;
            System.out.println(title + ": " + what + " answered \"" + got + "\", due is \"" + want + "\"");
        }
    }

    void finish() {
        System.out.println(title + ": " + (wrong == 0 ? "all answers are as due" : wrong + " answers are not as due"));
        if (wrong != 0) {
            System.exit(1);
        }
    }

    /** The bytes of a text (characters 0 to 255) behind the tape. */
    static void type(VerbSchool x, String text) {
        int had = x.count(3);
        for (int i = 0; i < text.length(); i += 20) {
            x.feed(four(text, i), four(text, i + 4), four(text, i + 8), four(text, i + 12), four(text, i + 16));
        }
        x.end(had + text.length());
    }

    private static int four(String text, int from) {
        int all = 0;
        for (int i = from; i < from + 4; i++) {
            all = all << 8 | (i < text.length() ? text.charAt(i) & 255 : 0);
        }
        return all;
    }

    static int book(VerbSchool x, String text) {
        type(x, text);
        return x.book();
    }

    static VerbSchool school(String text) {
        VerbSchool x = new VerbSchool();
        if (book(x, text) == VerbSchool.NONE) {
            throw new IllegalStateException("fault " + x.fault(0) + " at " + x.fault(1) + " in " + text);
        }
        return x;
    }

    static int read(VerbSchool x, String word) {
        type(x, word);
        return x.read();
    }

    static int answer(VerbSchool x, int l, int v, int tense, int person, String word) {
        type(x, word);
        return x.answer(l, v, tense, person);
    }

    /** All FORMS there with their ROWS, as "word:line,line word:line". */
    static String forms(VerbSchool x, int v, int tense, int person) {
        StringBuilder all = new StringBuilder();
        for (int k = 0; k < x.forms(v, tense, person); k++) {
            all.append(k == 0 ? "" : "|").append(word(x, v, tense, person, k)).append(':');
            all.append(row(x, v, tense, person, k));
        }
        return all.toString();
    }

    private static String word(VerbSchool x, int v, int tense, int person, int k) {
        StringBuilder word = new StringBuilder();
        for (int i = 0; x.form(v, tense, person, k, i) != VerbSchool.NONE; i++) {
            word.append((char) x.form(v, tense, person, k, i));
        }
        return word.toString();
    }

    private static String row(VerbSchool x, int v, int tense, int person, int k) {
        StringBuilder row = new StringBuilder();
        for (int i = 0; x.row(v, tense, person, k, i) != VerbSchool.NONE; i++) {
            row.append(i == 0 ? "" : ",").append(x.row(v, tense, person, k, i));
        }
        return row.toString();
    }

    /** The latest EXPLANATION, as "kind/missed/taken kind/missed/taken"; "" if there is none. */
    static String changes(VerbSchool x) {
        StringBuilder all = new StringBuilder();
        for (int i = 0; i < x.change(0); i++) {
            all.append(i == 0 ? "" : " ").append(x.change(10 + i)).append('/');
            all.append(x.change(20 + i)).append('/').append(x.change(30 + i));
        }
        return all.toString();
    }

    /** Classes a, b, c, .. */
    static String classes(int size) {
        StringBuilder all = new StringBuilder();
        for (int c = 0; c < size; c++) {
            all.append("class ").append((char) ('a' + c)).append(';');
        }
        return all.toString();
    }

    /** Verbs a, b, aa, ab, .. of class a. */
    static String verbs(int size) {
        StringBuilder all = new StringBuilder();
        for (int v = 0; v < size; v++) {
            all.append("verb ").append(Integer.toBinaryString(v + 2).substring(1).replace('0', 'a').replace('1', 'b')).append(" of a;");
        }
        return all.toString();
    }
}
