/** Promises 1 to 7 and 20: the tape, the book's text and its faults. */
public final class BookTest {
    private static final Check CHECK = new Check("BookTest");
    private static final String SMALL = "class a;verb x of a;";

    public static void main(String[] args) {
        newObject();
        tape();
        goodTexts();
        syntax();
        names();
        bounds();
        room();
        empty();
        faultLeavesAll();
        verbs();
        lines();
        CHECK.finish();
    }

    private static void newObject() {
        VerbSchool x = new VerbSchool();
        for (int what = -1; what < 5; what++) {
            CHECK.due("new count " + what, x.count(what), what >= 0 && what < 4 ? 0 : -1);
        }
        CHECK.due("new fault(0)", x.fault(0), 0);
        CHECK.due("new fault(1)", x.fault(1), -1);
        CHECK.due("new fault(2)", x.fault(2), -1);
        CHECK.due("new fault(-1)", x.fault(-1), -1);
        CHECK.due("new verb", x.verb(0, 0), -1);
        CHECK.due("new line", x.line(0, 0), -9);
        CHECK.due("new forms", x.forms(0, 0, 0), -2);
        CHECK.due("new form", x.form(0, 0, 0, 0, 0), -1);
        CHECK.due("new row", x.row(0, 0, 0, 0, 0), -1);
        CHECK.due("new rivals", x.rivals(0, 0, 0), -2);
        CHECK.due("new read", x.read(), 0);
        CHECK.due("new place", x.place(0, 0), -1);
        CHECK.due("new unused", x.unused(), 0);
        CHECK.due("new users", x.users(0), -2);
        CHECK.due("new answer", x.answer(0, 0, 0, 0), -2);
        CHECK.due("new change", x.change(0), -9);
        CHECK.due("new misses", x.misses(0, 0), -2);
        CHECK.due("new drill", x.drill(0), -1);
        CHECK.due("new drill 8", x.drill(8), -2);
        CHECK.due("new drill -1", x.drill(-1), -2);
    }

    private static void tape() {
        VerbSchool x = new VerbSchool();
        CHECK.due("end(0) of nothing", x.end(0), 0);
        CHECK.due("end(1) of nothing", x.end(1), -1);
        CHECK.due("end(-1)", x.end(-1), -1);
        for (int i = 1; i <= 199; i++) {
            CHECK.due("feed", x.feed(0, 0, 0, 0, 0), 20 * i);
        }
        CHECK.due("end(3981) of 3980", x.end(3981), -1);
        CHECK.due("feed to 4000", x.feed(-1, -1, -1, -1, -1), 4000);
        CHECK.due("feed to 4020", x.feed(0, 0, 0, 0, 0), VerbSchool.FULL);
        CHECK.due("still 4000", x.count(3), 4000);
        CHECK.due("end(3981)", x.end(3981), 3981);
        CHECK.due("feed to 4001", x.feed(0, 0, 0, 0, 0), VerbSchool.FULL);
        CHECK.due("end(3980)", x.end(3980), 3980);
        CHECK.due("feed to 4000 again", x.feed(0, 0, 0, 0, 0), 4000);
        x.book();
        CHECK.due("book empties", x.count(3), 0);
        x.feed(0, 0, 0, 0, 0);
        x.read();
        CHECK.due("read empties", x.count(3), 0);
        x.feed(0, 0, 0, 0, 0);
        x.answer(9, 0, 0, 0);
        CHECK.due("answer out of range empties", x.count(3), 0);
        x.feed(0x636c6173, 0x73206162, 0x3b202020, 0x20202020, 0x20202020);
        CHECK.due("bytes highest first", x.book(), 0);
        CHECK.due("bytes highest first: class", x.count(0), 1);
    }

    private static void good(String text, int lines) {
        VerbSchool x = new VerbSchool();
        CHECK.due(text, Check.book(x, text), lines);
        CHECK.due(text + " kind", x.fault(0), 0);
        CHECK.due(text + " place", x.fault(1), -1);
    }

    private static void bad(String text, int kind, int place) {
        VerbSchool x = new VerbSchool();
        CHECK.due(text, Check.book(x, text), -1);
        CHECK.due(text + " kind", x.fault(0), kind);
        CHECK.due(text + " place", x.fault(1), place);
    }

    /** The fault is due at the sign ^, which is no part of the text. */
    private static void badAt(String marked, int kind) {
        bad(marked.replace("^", ""), kind, marked.indexOf('^'));
    }

    private static void goodTexts() {
        good("", 0);
        good(" \n \n", 0);
        good("\nclass\na ; verb x of a\n;\n", 0);
        good("class a;verb a of a;", 0);
        good(SMALL + "ending all tense0person5'';", 1);
        good(SMALL + "stem in a tense 4 'abcdefgh' to '';stem all tense 0 person 0 'a'to'b';", 2);
        good(SMALL + "sound 'a'to'' last;sound'a'to'b';", 2);
        good(SMALL + "compound all tense 4 by x tense 4 part 4;compound in a tense 0by x tense 0part 0;", 2);
        good(SMALL + "except x tense 0 'a';lack x tense 0;lack x tense 0 person 5;", 3);
        good("class abcdefghijkl;", 0);
        good("class classes;verb v of classes;", 0);
    }

    private static void syntax() {
        badAt("^;", 1);
        badAt("class a;^;", 1);
        badAt("^a", 1);
        badAt("class^", 1);
        badAt("class a^", 1);
        badAt("class a \n^", 1);
        badAt("class a; ^\t", 1);
        badAt("class a;^\r\n", 1);
        badAt("class ^abcdefghijklm;", 1);
        badAt("class ^A;", 1);
        badAt("class a^B;", 1);
        badAt("class ^'a';", 1);
        badAt("class ^1;", 1);
        badAt("class a ^b;", 1);
        badAt("class a^1;", 1);
        for (String word : ("class verb of stem to ending sound last compound tense by part except lack all in person").split(" ")) {
            badAt("class ^" + word + ";", 1);
            badAt("class a;verb ^" + word + " of a;", 1);
            badAt(SMALL + "lack ^" + word + " tense 0;", 1);
        }
        badAt("verb x ^a;", 1);
        badAt(SMALL + "stem ^x tense 0 'a' to 'b';", 1);
        badAt(SMALL + "stem all ^'a' to 'b';", 1);
        badAt(SMALL + "stem all tense ^'a' to 'b';", 1);
        badAt(SMALL + "stem all tense ^10 'a' to 'b';", 1);
        badAt(SMALL + "stem all tense 0 person ^00 'a' to 'b';", 1);
        badAt(SMALL + "stem all tense 0 'a' ^'b';", 1);
        badAt(SMALL + "stem all tense 0 'a' to 'b' ^last;", 1);
        badAt(SMALL + "ending all tense 0 ^'a", 1);
        badAt(SMALL + "ending all tense 0 ^'a ';", 1);
        badAt(SMALL + "ending all tense 0 ^'aA';", 1);
        badAt(SMALL + "ending all tense 0 ^'abcdefghi';", 1);
        badAt(SMALL + "ending all tense 0 ^'", 1);
        badAt(SMALL + "ending all tense 0 'a' ^to 'b';", 1);
        badAt(SMALL + "ending all tense 0 ^tense 0 'a';", 1);
        badAt(SMALL + "ending all tense 0 person 0 ^person 0 'a';", 1);
        badAt(SMALL + "ending all ^person 0 tense 0 'a';", 1);
        badAt(SMALL + "sound ^all 'a' to 'b';", 1);
        badAt(SMALL + "sound 'a' to 'b' last ^last;", 1);
        badAt(SMALL + "compound all tense 0 ^person 0 by x tense 0 part 0;", 1);
        badAt(SMALL + "compound all tense 0 by x tense 0 ^;", 1);
        badAt(SMALL + "compound all tense 0 by x tense 0 part ^12;", 1);
        badAt(SMALL + "except x tense 0 ^;", 1);
        badAt(SMALL + "except x tense 0 'a' ^", 1);
        badAt(SMALL + "lack x tense 0 ^'a';", 1);
        badAt(SMALL + "lack ^all tense 0;", 1);
        badAt("class a;^" + (char) 0, 1);
        badAt("class a;^" + (char) 225, 1);
    }

    private static void names() {
        badAt("class a;class ^a;", 2);
        badAt(SMALL + "verb ^x of a;", 2);
        badAt(SMALL + "verb y of ^b;", 2);
        badAt(SMALL + "verb y of ^x;", 2);
        badAt("verb y of ^a;class a;", 2);
        badAt(SMALL + "stem in ^x tense 9 'a' to 'b';", 2);
        badAt(SMALL + "ending in ^b tense 0 'a';", 2);
        badAt(SMALL + "compound in ^b tense 0 by x tense 0 part 0;", 2);
        badAt(SMALL + "compound in a tense 0 by ^a tense 0 part 0;", 2);
        badAt(SMALL + "compound in a tense 0 by ^y tense 0 part 0;verb y of a;", 2);
        badAt(SMALL + "except ^a tense 0 'a';", 2);
        badAt(SMALL + "lack ^y tense 0;", 2);
        badAt("class a;class ^a", 2);
    }

    private static void bounds() {
        badAt(SMALL + "stem all tense ^5 'a' to 'b';", 3);
        badAt(SMALL + "stem all tense 4 person ^6 'a' to 'b';", 3);
        badAt(SMALL + "ending all tense ^9 '';", 3);
        badAt(SMALL + "compound all tense ^5 by x tense 0 part 0;", 3);
        badAt(SMALL + "compound all tense 0 by x tense ^5 part 0;", 3);
        badAt(SMALL + "compound all tense 0 by x tense 0 part ^5;", 3);
        badAt(SMALL + "except x tense ^5 'a';", 3);
        badAt(SMALL + "lack x tense 0 person ^7;", 3);
    }

    private static void room() {
        String six = "class a;class b;class c;class d;class e;class f;";
        good(six, 0);
        badAt(six + "^class a;", 4);
        badAt(six + "^class", 4);
        StringBuilder thirty = new StringBuilder("class a;");
        for (int v = 0; v < 30; v++) {
            thirty.append("verb v").append((char) ('a' + v / 26)).append((char) ('a' + v % 26)).append(" of a;");
        }
        good(thirty.toString(), 0);
        badAt(thirty + " ^verb x of a;", 4);
        StringBuilder sixty = new StringBuilder(SMALL);
        for (int l = 0; l < 60; l++) {
            sixty.append("lack x tense 0;");
        }
        good(sixty.toString(), 60);
        good(sixty + "class b;verb y of b;", 60);
        for (String first : new String[] {"stem", "ending", "sound", "compound", "except", "lack"}) {
            badAt(sixty + "^" + first + " ;", 4);
        }
        String two = SMALL + "except x tense 0 'a';except x tense 0 'b';";
        good(two + "except x tense 0 person 0 'a';except x tense 0 person 0 'a';except x tense 1 'a';", 5);
        badAt(two + "except x tense 0 ^'c';", 4);
        badAt(two + "except x tense 0 ^'';", 4);
        badAt(two + "except x tense 0 ^;", 1);
        badAt(two + "except x tense 0 person 1 'c';lack x tense 0;except x tense 0 person 1 'd';except x tense 0 person 1 ^'c'", 4);
        good(SMALL + "verb y of a;" + two.substring(SMALL.length()) + "except y tense 0 'a';except y tense 0 'a';", 4);
    }

    private static void empty() {
        badAt(SMALL + "stem all tense 0 ^'' to 'b';", 5);
        badAt(SMALL + "sound ^'' to 'b';", 5);
        badAt(SMALL + "except x tense 0 ^'';", 5);
        badAt(SMALL + "except x tense 0 person 1 ^'' 9", 5);
    }

    private static void faultLeavesAll() {
        VerbSchool x = Check.school(SMALL + "ending all tense 0 'e';sound 'ee' to 'i';");
        Check.answer(x, 3, 0, 0, 0, "x");
        Check.read(x, "xe");
        CHECK.due("fault", Check.book(x, "class b"), -1);
        CHECK.due("fault(0)", x.fault(0), 1);
        CHECK.due("fault(1)", x.fault(1), 7);
        CHECK.due("classes stay", x.count(0), 1);
        CHECK.due("lines stay", x.count(2), 2);
        CHECK.due("tape is empty", x.count(3), 0);
        CHECK.due("misses stay", x.misses(3, 0), 1);
        CHECK.due("explanation stays", Check.changes(x), "4/0/-1");
        CHECK.due("place stays", x.place(5, 2), 5);
        CHECK.due("latest stays", x.drill(3), 1);
        CHECK.due("good one", Check.book(x, SMALL + "ending all tense 0 'e';"), 1);
        CHECK.due("fault(0) is gone", x.fault(0), 0);
        CHECK.due("fault(1) is gone", x.fault(1), -1);
        CHECK.due("misses are gone", x.misses(3, 0), 0);
        CHECK.due("explanation is gone", x.change(0), -9);
        CHECK.due("place is gone", x.place(0, 0), -1);
        CHECK.due("latest is gone", x.drill(3), 0);
        CHECK.due("an empty tape is an empty book", x.book(), 0);
        CHECK.due("no verbs", x.count(1), 0);
    }

    private static void verbs() {
        VerbSchool x = Check.school("class a;class b;verb go of b;verb abcdefghijkl of a;");
        CHECK.due("class", x.verb(0, 0), 1);
        CHECK.due("letters", x.verb(0, 1), 2);
        CHECK.due("letter 0", x.verb(0, 10), 'g');
        CHECK.due("letter 1", x.verb(0, 11), 'o');
        CHECK.due("letter 2", x.verb(0, 12), -1);
        CHECK.due("what 2", x.verb(0, 2), -1);
        CHECK.due("what 9", x.verb(0, 9), -1);
        CHECK.due("what -1", x.verb(0, -1), -1);
        CHECK.due("what least", x.verb(0, Integer.MIN_VALUE), -1);
        CHECK.due("what most", x.verb(0, Integer.MAX_VALUE), -1);
        CHECK.due("12 letters", x.verb(1, 1), 12);
        CHECK.due("letter 11", x.verb(1, 21), 'l');
        CHECK.due("verb 2", x.verb(2, 0), -1);
        CHECK.due("verb -1", x.verb(-1, 0), -1);
    }

    private static void oneLine(VerbSchool x, int l, int... due) {
        for (int what = 0; what < due.length; what++) {
            CHECK.due("line(" + l + ", " + what + ")", x.line(l, what), due[what]);
        }
        CHECK.due("line what 7", x.line(l, 7), -9);
        CHECK.due("line what -1", x.line(l, -1), -9);
    }

    private static void lines() {
        VerbSchool x = Check.school("class a;class b;verb x of a;verb y of a;"
            + "stem in b tense 3 person 4 'abc' to 'de';stem all tense 0 'a' to '';"
            + "ending in a tense 1 'abcdefgh';ending all tense 2 person 5 '';"
            + "sound 'aa' to 'b';sound 'a' to 'bcd' last;"
            + "compound all tense 4 by y tense 3 part 2;compound in b tense 1 by x tense 3 part 2;"
            + "except y tense 2 'abc';except x tense 1 person 0 'a';lack y tense 4 person 3;lack x tense 0;");
        oneLine(x, 0, 0, 1, 3, 4, 3, 2, 0);
        oneLine(x, 1, 0, -1, 0, -1, 1, 0, 0);
        oneLine(x, 2, 1, 0, 1, -1, 8, 0, 0);
        oneLine(x, 3, 1, -1, 2, 5, 0, 0, 0);
        oneLine(x, 4, 2, -1, -1, -1, 2, 1, 0);
        oneLine(x, 5, 2, -1, -1, -1, 1, 3, 1);
        oneLine(x, 6, 3, -1, 4, -1, 0, 0, 1);
        oneLine(x, 7, 3, 1, 1, -1, 0, 0, 0);
        oneLine(x, 8, 4, 1, 2, -1, 3, 0, 0);
        oneLine(x, 9, 4, 0, 1, 0, 1, 0, 0);
        oneLine(x, 10, 5, 1, 4, 3, 0, 0, 0);
        oneLine(x, 11, 5, 0, 0, -1, 0, 0, 0);
        CHECK.due("line 12", x.line(12, 0), -9);
        CHECK.due("line -1", x.line(-1, 0), -9);
        Check.book(x, SMALL + "lack x tense 0;");
        oneLine(x, 0, 5, 0, 0, -1, 0, 0, 0);
    }
}
