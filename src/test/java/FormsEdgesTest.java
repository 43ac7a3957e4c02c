/**
 * The boundary cases that the document names, of Term II and promises 8 to 15. Labels hold the
 * document's words that are tested.
 */
public final class FormsEdgesTest {
    private static final Check CHECK = new Check("FormsEdgesTest");
    private static final int LEAST = Integer.MIN_VALUE;
    private static final int MOST = Integer.MAX_VALUE;
    private static final String SMALL = "class a;verb x of a;";

    public static void main(String[] args) {
        whatFits();
        whatIsTakenFirst();
        stemPlaces();
        soundPlaces();
        soundsAtTheEnd();
        thirtyBytes();
        noBytes();
        compoundsThatLack();
        compoundsOfThirtyBytes();
        lineZero();
        longestRow();
        placesOutOfBounds();
        formAndRow();
        rivals();
        readEdges();
        placeEdges();
        everyPlace();
        usersAndUnused();
        CHECK.finish();
    }

    private static void due(String label, VerbSchool x, int v, int tense, int person, String forms) {
        CHECK.due(label + " at " + v + " " + tense + " " + person, Check.forms(x, v, tense, person), forms);
    }

    /** The FORM with its ROW of the one verb at tense 0, whose ending is the first LINE. */
    private static void sounded(String verb, String sounds, String form) {
        VerbSchool x = Check.school("class a;verb " + verb + " of a;ending all tense 0 '';" + sounds);
        CHECK.due(verb + " with " + sounds, Check.forms(x, 0, 0, 0), form);
    }

    // ---- Term II

    private static void whatFits() {
        VerbSchool x = Check.school("class a;class b;verb x of a;verb y of b;ending in a tense 4 person 5 'e';ending in b tense 0 'o';");
        for (int tense = 0; tense < 5; tense++) {
            for (int person = 0; person < 6; person++) {
                due("its person is that", x, 0, tense, person, tense == 4 && person == 5 ? "xe:0" : "");
                due("or it has none", x, 1, tense, person, tense == 0 ? "yo:1" : "");
            }
        }
        x = Check.school("class a;class b;verb x of b;verb y of a;except x tense 0 person 0 'e';except y tense 0 person 5 'o';");
        due("of except its verb, not a class of that number", x, 0, 0, 0, "e:0");
        due("of except its verb", x, 1, 0, 0, "");
        due("of except its person", x, 1, 0, 5, "o:1");
        x = Check.school("class a;class b;verb x of b;verb y of a;ending all tense 0 '';lack x tense 0 person 0;");
        due("of lack its verb", x, 0, 0, 0, "");
        due("of lack its person", x, 0, 0, 1, "x:0");
        due("of lack its verb, not a class of that number", x, 1, 0, 0, "y:0");
    }

    private static void whatIsTakenFirst() {
        String all = SMALL + "ending all tense 0 'e';compound all tense 0 by x tense 1 part 1;except x tense 0 'p';lack x tense 0;ending all tense 1 'o';";
        due("none, if a lack FITS", Check.school(all), 0, 0, 0, "");
        due("else excepts", Check.school(all.replace("lack x tense 0;", "")), 0, 0, 0, "p:2");
        due("else a compound", Check.school(all.replace("except x tense 0 'p';lack x tense 0;", "")), 0, 0, 0, "xo xo:1,2,2");
        due("else an ending", Check.school(SMALL + "ending all tense 0 'e';"), 0, 0, 0, "xe:0");
        due("else none", Check.school(SMALL + "stem all tense 0 'x' to 'y';sound 'x' to 'z';"), 0, 0, 0, "");
        VerbSchool x = Check.school("class a;class b;verb x of a;verb y of a;ending all tense 1 'o';"
            + "compound in b tense 0 by x tense 1 part 1;compound in a tense 0 by y tense 1 part 1;compound all tense 0 by x tense 1 part 1;"
            + "stem in b tense 1 'x' to 'k';stem all tense 1 person 5 'x' to 'm';stem all tense 1 'x' to 'n';ending all tense 1 'u';");
        due("the first compound that FITS", x, 0, 0, 0, "yo no:2,0,6,0");
        due("the first stem that FITS", x, 0, 1, 5, "mo:5,0");
        due("the first stem that FITS", x, 0, 1, 4, "no:6,0");
    }

    private static void stemPlaces() {
        String[][] all = {{"aaa", "'aa' to 'b'", "ab:0,1"}, {"abab", "'ab' to 'c'", "abc:0,1"}, {"abba", "'ab' to ''", "ba:0,1"},
            {"abc", "'abc' to 'x'", "x:0,1"}, {"abc", "'abcd' to 'x'", "abc:1"}, {"abc", "'c' to 'cc'", "abcc:0,1"},
            {"abc", "'a' to 'aa'", "aabc:0,1"}, {"abc", "'d' to 'e'", "abc:1"}, {"abc", "'b' to 'b'", "abc:0,1"},
            {"abcdefghijkl", "'l' to 'abcdefgh'", "abcdefghijkabcdefgh:0,1"}, {"abcdefghijkl", "'efghijkl' to ''", "abcd:0,1"}};
        for (String[] one : all) {
            VerbSchool x = Check.school("class a;verb " + one[0] + " of a;stem all tense 0 " + one[1] + ";ending all tense 0 '';");
            due("the last place of " + one[1], x, 0, 0, 0, one[2]);
        }
        due("a stem that doesn't stand there hides those behind it",
            Check.school(SMALL + "stem all tense 0 'q' to 'r';stem all tense 0 'x' to 'y';ending all tense 0 'e';"), 0, 0, 0, "xe:2");
        due("the stem doesn't look at the ending",
            Check.school(SMALL + "stem all tense 0 'xe' to 'y';ending all tense 0 'e';"), 0, 0, 0, "xe:1");
    }

    private static void soundPlaces() {
        sounded("aaa", "sound 'aa' to 'b';", "ba:0,1");
        sounded("aaaa", "sound 'aa' to 'a';", "aa:0,1");
        sounded("abb", "sound 'ab' to 'a';", "ab:0,1");
        sounded("aab", "sound 'ab' to 'b';", "ab:0,1");
        sounded("aa", "sound 'a' to 'aa';", "aaaa:0,1");
        sounded("abc", "sound 'abcd' to 'x';", "abc:0");
        sounded("abc", "sound 'bc' to '';", "a:0,1");
        sounded("aba", "sound 'a' to 'b';sound 'b' to 'a';", "aaa:0,1,2");
        sounded("aba", "sound 'b' to 'a';sound 'a' to 'b';", "bbb:0,1,2");
        sounded("aba", "sound 'a' to 'a';", "aba:0");
        sounded("aba", "sound 'c' to 'd';sound 'a' to 'c';sound 'd' to 'e';", "cbc:0,2");
        sounded("x", "sound 'x' to 'y';sound 'y' to 'x';", "x:0,1,2");
    }

    private static void soundsAtTheEnd() {
        sounded("aaa", "sound 'a' to '' last;", "aa:0,1");
        sounded("aaa", "sound 'a' to 'aa' last;", "aaaa:0,1");
        sounded("aaa", "sound 'aa' to 'b' last;", "ab:0,1");
        sounded("aaa", "sound 'aaa' to 'b' last;", "b:0,1");
        sounded("aaa", "sound 'aaaa' to 'b' last;", "aaa:0");
        sounded("aba", "sound 'ab' to 'c' last;", "aba:0");
        sounded("aba", "sound 'b' to 'c' last;", "aba:0");
        sounded("aba", "sound 'a' to 'a' last;", "aba:0");
        sounded("aba", "sound 'a' to 'c' last;sound 'a' to 'd' last;", "abc:0,1");
        sounded("aba", "sound 'a' to '' last;sound 'b' to '' last;", "a:0,1,2");
    }

    private static void thirtyBytes() {
        String verb = "class a;verb aaaaaaaaaaab of a;";
        VerbSchool x = Check.school(verb + "ending all tense 0 'aaa';ending all tense 1 'aaaa';ending all tense 2 'bbbb';sound 'a' to 'cc';"
            + "sound 'b' to 'd';sound 'c' to '';");
        due("29 bytes at most", x, 0, 0, 0, "d:0,3,4,5");
        CHECK.due("31 bytes at any time", x.forms(0, 1, 0), 0);
        CHECK.due("its FORM", x.form(0, 1, 0, 0, 0), -1);
        due("27 bytes", x, 0, 2, 0, "ddddd:2,3,4,5");
        x = Check.school("class a;verb aaaaaaaaaaaa of a;ending all tense 0 'aaa';ending all tense 1 'aaab';sound 'a' to 'cc';");
        due("30 bytes", x, 0, 0, 0, "c".repeat(30) + ":0,2");
        due("31 bytes", x, 0, 1, 0, "");
        x = Check.school("class a;verb aaaaaaaaaaaa of a;ending all tense 0 'aaa';sound 'a' to 'cc';sound 'c' to 'd';sound 'd' to 'e' last;");
        due("each of 30 places", x, 0, 0, 0, "d".repeat(29) + "e:0,1,2,3");
        x = Check.school("class a;verb aaaaaaaaaaaa of a;ending all tense 0 'aaa';ending all tense 1 'aaab';sound 'a' to 'cc';"
            + "sound 'c' to 'd' last;sound 'd' to 'ee' last;sound 'c' to '';");
        due("30, then 31 by last, then fewer", x, 0, 0, 0, "");
        x = Check.school("class a;verb aaaaaaaaaaaa of a;ending all tense 0 'aaa';sound 'a' to 'cc';sound 'c' to 'dd';sound 'd' to 'e';");
        due("60 at once", x, 0, 0, 0, "");
        x = Check.school("class a;verb aaaaaaaaaaaa of a;ending all tense 0 'bbbbbbbb';stem all tense 0 'a' to 'cccccccc';sound 'b' to 'c';"
            + "sound 'c' to 'aaaaaaaa' last;");
        CHECK.due("27 bytes ahead of the sounds, 34 behind", x.forms(0, 0, 0), 0);
        x = Check.school("class a;verb aaaaaaaaaaaa of a;ending all tense 0 'bbbbbbbb';stem all tense 0 'a' to 'cccccccc';");
        due("27 bytes are the most without sounds", x, 0, 0, 0, "aaaaaaaaaaaccccccccbbbbbbbb:1,0");
    }

    private static void noBytes() {
        VerbSchool x = Check.school(SMALL + "stem all tense 0 'x' to '';ending all tense 0 '';stem all tense 1 'x' to '';ending all tense 1 'e';"
            + "ending all tense 2 '';ending all tense 3 'e';compound all tense 4 by x tense 3 part 0;");
        due("without any", x, 0, 0, 0, "");
        due("the ending alone", x, 0, 1, 0, "e:2,3");
        due("the STEM alone", x, 0, 2, 0, "x:4");
        due("a part without FORMS", x, 0, 4, 0, "");
        sounded("aa", "sound 'a' to '';", "");
        sounded("a", "sound 'a' to '' last;sound 'b' to 'a';", "");
        sounded("aa", "sound 'a' to '' last;", "a:0,1");
    }

    private static void compoundsThatLack() {
        String text = "class a;verb h of a;verb x of a;ending all tense 0 'e';ending all tense 1 'o';ending all tense 2 'u';"
            + "compound all tense 2 by h tense 0 part 1;";
        due("whole", Check.school(text), 1, 2, 3, "he xo:3,0,1");
        due("the helper lacks it there", Check.school(text + "lack h tense 0 person 3;"), 1, 2, 3, "");
        due("the helper has it elsewhere", Check.school(text + "lack h tense 0 person 3;"), 1, 2, 4, "he xo:3,0,1");
        due("the part lacks person 0", Check.school(text + "lack x tense 1 person 0;"), 1, 2, 3, "");
        due("the part's person is 0", Check.school(text + "lack x tense 1 person 3;"), 1, 2, 3, "he xo:3,0,1");
        due("excepts of the helper at the person", Check.school(text + "except h tense 0 person 3 'p';"), 1, 2, 3, "p xo:3,4,1");
        due("excepts of the part at person 0", Check.school(text + "except x tense 1 person 0 'p';"), 1, 2, 3, "he p:3,0,4");
        due("no excepts of the part at the person", Check.school(text + "except x tense 1 person 3 'p';"), 1, 2, 3, "he xo:3,0,1");
        due("as if there were no compounds", Check.school(text + "compound all tense 0 by x tense 1 part 1;compound all tense 1 by x tense 0 part 0;"),
            1, 2, 3, "he xo:3,0,1");
        due("no ending instead of a compound without FORMS", Check.school(text.replace("by h tense 0", "by h tense 4")), 1, 2, 3, "");
        due("the helper by itself", Check.school(text), 0, 2, 0, "he ho:3,0,1");
        due("the same tense", Check.school(text.replace("tense 0 part 1", "tense 2 part 2")), 1, 2, 0, "hu xu:3,2,2");
    }

    private static void compoundsOfThirtyBytes() {
        String text = "class a;verb aaaaaaaaaaaa of a;verb bbbbbbbbbbbb of a;ending all tense 0 'cccc';ending all tense 1 'd';ending all tense 2 'dd';"
            + "compound all tense 3 by aaaaaaaaaaaa tense 0 part 1;compound all tense 4 by aaaaaaaaaaaa tense 0 part 2;";
        due("30 bytes", Check.school(text), 1, 3, 0, "aaaaaaaaaaaacccc bbbbbbbbbbbbd:3,0,1");
        due("31 bytes", Check.school(text), 1, 4, 0, "");
        due("one is no FORM, others are", Check.school(text + "except aaaaaaaaaaaa tense 0 person 1 'abcdefgh';"
            + "except bbbbbbbbbbbb tense 2 person 0 'p';except bbbbbbbbbbbb tense 2 person 0 'q';"), 1, 4, 1, "abcdefgh p:4,5,6|abcdefgh q:4,5,7");
        due("the first is too long", Check.school(text + "sound 'd' to 'dddddddd';sound 'c' to 'cc';except bbbbbbbbbbbb tense 1 person 0 'p';"),
            1, 3, 0, "aaaaaaaaaaaacccccccc p:3,0,6,7");
    }

    /** A LINE of each KIND as the first one of all. */
    private static void lineZero() {
        String rest = "ending all tense 0 'e';compound all tense 1 by x tense 0 part 0;";
        due("stem", Check.school(SMALL + "stem all tense 0 'x' to 'y';" + rest), 0, 0, 0, "ye:0,1");
        due("ending", Check.school(SMALL + rest), 0, 0, 0, "xe:0");
        due("sound", Check.school(SMALL + "sound 'x' to 'y';" + rest), 0, 0, 0, "ye:1,0");
        due("compound", Check.school(SMALL + "compound all tense 0 by x tense 2 part 3;ending all tense 2 'o';ending all tense 3 'u';" + rest),
            0, 0, 0, "xo xu:0,1,2");
        due("except", Check.school(SMALL + "except x tense 0 'p';" + rest), 0, 0, 0, "p:0");
        due("except where a compound FITS", Check.school(SMALL + "except x tense 1 'p';" + rest), 0, 1, 0, "p:0");
        due("except of a part", Check.school(SMALL + "except x tense 0 'p';" + rest), 0, 1, 0, "p p:2,0,0");
        due("lack", Check.school(SMALL + "lack x tense 0;" + rest), 0, 0, 0, "");
        due("lack where a compound FITS", Check.school(SMALL + "lack x tense 1;" + rest), 0, 1, 0, "");
        due("lack of a part", Check.school(SMALL + "lack x tense 0;" + rest), 0, 1, 0, "");
    }

    private static void longestRow() {
        StringBuilder text = new StringBuilder("class a;verb aaaaaaaaaaaa of a;stem all tense 0 'a' to 'b';ending all tense 0 '';"
            + "compound all tense 1 by aaaaaaaaaaaa tense 0 part 0;");
        for (int i = 0; i < 57; i++) {
            text.append(i % 2 == 0 ? "sound 'b' to 'c';" : "sound 'c' to 'b';");
        }
        VerbSchool x = Check.school(text.toString());
        CHECK.due("60 LINES", x.count(2), 60);
        CHECK.due("one FORM", x.forms(0, 1, 0), 1);
        CHECK.due("the compound", x.row(0, 1, 0, 0, 0), 2);
        CHECK.due("the helper's last sound", x.row(0, 1, 0, 0, 59), 59);
        CHECK.due("the part's stem", x.row(0, 1, 0, 0, 60), 0);
        CHECK.due("the part's last sound", x.row(0, 1, 0, 0, 118), 59);
        CHECK.due("behind it", x.row(0, 1, 0, 0, 119), -1);
        CHECK.due("the last LINE is used", x.users(59), 12);
        CHECK.due("all are used", x.unused(), 0);
    }

    // ---- Promises 8 to 11

    private static void placesOutOfBounds() {
        VerbSchool x = Check.school("class a;" + Check.verbs(30) + "ending all tense 4 person 5 'e';ending all tense 0 person 0 'o';");
        CHECK.due("the last place", x.forms(29, 4, 5), 1);
        CHECK.due("the first place", x.forms(0, 0, 0), 1);
        CHECK.due("rivals at the last place", x.rivals(29, 4, 5), 1);
        CHECK.due("a place without FORMS", x.forms(29, 4, 4), 0);
        for (int v : new int[] {-1, 30, LEAST, MOST}) {
            outOfBounds(x, v, 0, 0);
        }
        for (int tense : new int[] {-1, 5, LEAST, MOST}) {
            outOfBounds(x, 0, tense, 0);
        }
        for (int person : new int[] {-1, 6, LEAST, MOST}) {
            outOfBounds(x, 0, 0, person);
        }
        outOfBounds(new VerbSchool(), 0, 0, 0);
        outOfBounds(Check.school("class a;"), 0, 0, 0);
    }

    private static void outOfBounds(VerbSchool x, int v, int tense, int person) {
        String at = " at " + v + " " + tense + " " + person;
        CHECK.due("forms" + at, x.forms(v, tense, person), -2);
        CHECK.due("rivals" + at, x.rivals(v, tense, person), -2);
        CHECK.due("form" + at, x.form(v, tense, person, 0, 0), -1);
        CHECK.due("row" + at, x.row(v, tense, person, 0, 0), -1);
    }

    private static void formAndRow() {
        VerbSchool x = Check.school(SMALL + "except x tense 0 person 5 'ab';except x tense 0 'c';except x tense 0 person 5 'd';"
            + "except x tense 1 'h';except x tense 1 'i';except x tense 2 'p';except x tense 2 'q';"
            + "compound all tense 3 by x tense 1 part 2;");
        due("the first two by number", x, 0, 0, 5, "ab:0|c:1");
        CHECK.due("FORM 2", x.form(0, 0, 5, 2, 0), -1);
        CHECK.due("ROW 2", x.row(0, 0, 5, 2, 0), -1);
        due("the first four", x, 0, 3, 4, "h p:7,3,5|h q:7,3,6|i p:7,4,5|i q:7,4,6");
        CHECK.due("FORM 3", x.form(0, 3, 4, 3, 2), 'q');
        for (int k : new int[] {-1, 4, LEAST, MOST}) {
            CHECK.due("FORM " + k, x.form(0, 3, 4, k, 0), -1);
            CHECK.due("ROW of FORM " + k, x.row(0, 3, 4, k, 0), -1);
        }
        CHECK.due("the blank", x.form(0, 3, 4, 0, 1), 32);
        CHECK.due("byte 2", x.form(0, 3, 4, 0, 2), 'p');
        CHECK.due("LINE 2", x.row(0, 3, 4, 0, 2), 5);
        for (int i : new int[] {-1, 3, LEAST, MOST}) {
            CHECK.due("byte " + i, x.form(0, 3, 4, 0, i), -1);
            CHECK.due("LINE " + i, x.row(0, 3, 4, 0, i), -1);
        }
        CHECK.due("no FORM", x.form(0, 4, 0, 0, 0), -1);
        CHECK.due("no ROW", x.row(0, 4, 0, 0, 0), -1);
    }

    private static void rivals() {
        VerbSchool x = Check.school(SMALL + "ending all tense 0 'e';".repeat(60));
        CHECK.due("60 rivals", x.rivals(0, 0, 0), 60);
        CHECK.due("none", x.rivals(0, 1, 0), 0);
        x = Check.school(SMALL + "ending all tense 0 'e';ending all tense 0 'e';lack x tense 0;except x tense 0 'a';sound 'x' to '';");
        CHECK.due("in spite of a lack", x.rivals(0, 0, 0), 2);
        CHECK.due("there are no FORMS", x.forms(0, 0, 0), 0);
    }

    // ---- Promises 12 to 15

    private static void readEdges() {
        VerbSchool x = Check.school(SMALL + "verb y of a;ending all tense 0 '';sound 'y' to 'xx';except y tense 1 person 5 'x';except y tense 1 person 5 'x';"
            + "compound all tense 2 by x tense 0 part 0;");
        CHECK.due("a word twice at one place is one place", Check.read(x, "x"), 7);
        CHECK.due("that place", x.place(6, 0) * 100 + x.place(6, 1) * 10 + x.place(6, 2), 115);
        CHECK.due("behind the last", x.place(7, 0), -1);
        CHECK.due("no bytes", Check.read(x, ""), 0);
        CHECK.due("an empty tape again", x.read(), 0);
        CHECK.due("a blank behind is none", Check.read(x, "x "), 0);
        CHECK.due("a zero behind is none", Check.read(x, "x\0"), 0);
        CHECK.due("a blank ahead is none", Check.read(x, " x"), 0);
        CHECK.due("with a blank within", Check.read(x, "x xx"), 6);
        CHECK.due("with another blank within", Check.read(x, "x\nxx"), 0);
        CHECK.due("large letters", Check.read(x, "X"), 0);
        CHECK.due("4000 bytes", Check.read(x, "x".repeat(4000)), 0);
        CHECK.due("the tape is read", x.count(3), 0);
        x = Check.school("class a;verb aaaaaaaaaaaa of a;ending all tense 0 person 5 'aaa';sound 'a' to 'cc';");
        CHECK.due("30 bytes", Check.read(x, "c".repeat(30)), 1);
        CHECK.due("its person", x.place(0, 2), 5);
        CHECK.due("31 bytes", Check.read(x, "c".repeat(31)), 0);
        CHECK.due("29 bytes", Check.read(x, "c".repeat(29)), 0);
    }

    private static void placeEdges() {
        VerbSchool x = Check.school(SMALL + "verb y of a;ending all tense 0 'e';");
        CHECK.due("ahead of any read()", x.place(0, 0), -1);
        Check.read(x, "ye");
        for (int what = 0; what < 3; what++) {
            CHECK.due("place 5, what " + what, x.place(5, what), what == 0 ? 1 : what == 1 ? 0 : 5);
            for (int i : new int[] {-1, 6, 59, 60, LEAST, MOST}) {
                CHECK.due("no place " + i, x.place(i, what), -1);
            }
        }
        for (int what : new int[] {-1, 3, LEAST, MOST}) {
            CHECK.due("none such " + what, x.place(0, what), -1);
        }
        Check.answer(x, 0, 0, 0, 0, "xe");
        CHECK.due("answer() leaves it", x.place(5, 0), 1);
        CHECK.due("none is found", Check.read(x, "q"), 0);
        CHECK.due("of the latest read()", x.place(0, 0), -1);
    }

    /** 30 verbs of as and bs, which all are "x" everywhere. */
    private static void everyPlace() {
        StringBuilder text = new StringBuilder("class a;").append(Check.verbs(30));
        for (int tense = 0; tense < 5; tense++) {
            text.append("ending all tense ").append(tense).append(" 'x';");
        }
        VerbSchool x = Check.school(text + "sound 'a' to '';sound 'b' to '';");
        CHECK.due("all places", Check.read(x, "x"), 900);
        CHECK.due("verb of place 59", x.place(59, 0), 1);
        CHECK.due("tense of place 59", x.place(59, 1), 4);
        CHECK.due("person of place 59", x.place(59, 2), 5);
        CHECK.due("place 30", x.place(30, 0) * 100 + x.place(30, 1) * 10 + x.place(30, 2), 100);
        for (int i : new int[] {60, 61, 899, 900}) {
            CHECK.due("not told: " + i, x.place(i, 0), -1);
        }
        CHECK.due("users of an ending", x.users(4), 180);
        CHECK.due("users of 'a' (verbs with an a)", x.users(5), 30 * 26);
        CHECK.due("unused", x.unused(), 0);
        CHECK.due("other word", Check.read(x, "xx"), 0);
    }

    private static void usersAndUnused() {
        VerbSchool x = new VerbSchool();
        CHECK.due("unused of an empty BOOK", x.unused(), 0);
        CHECK.due("no such LINE", x.users(0), -2);
        Check.book(x, SMALL + "lack x tense 0;".repeat(60));
        CHECK.due("60 unused", x.unused(), 60);
        CHECK.due("users of the 60th LINE", x.users(59), 0);
        for (int l : new int[] {-1, 60, 64, LEAST, MOST}) {
            CHECK.due("no such LINE " + l, x.users(l), -2);
        }
        Check.book(x, SMALL + "lack x tense 0;".repeat(59) + "ending all tense 4 'e';");
        CHECK.due("59 unused", x.unused(), 59);
        CHECK.due("users of LINE 59", x.users(59), 6);
        CHECK.due("users of LINE 27, which shares its place in an int with 59", x.users(27), 0);
        Check.book(x, SMALL + "ending all tense 0 'e';sound 'e' to 'e';stem all tense 0 'x' to 'x';stem all tense 0 'x' to 'y';"
            + "except x tense 1 'a';except x tense 1 'a';except x tense 1 person 0 'b';compound all tense 2 by x tense 1 part 1;");
        int[] due = {6, 0, 6, 0, 12, 12, 0, 6};
        for (int l = 0; l < due.length; l++) {
            CHECK.due("users of " + l, x.users(l), due[l]);
        }
        CHECK.due("unused", x.unused(), 3);
        Check.book(x, "class a;class;");
        CHECK.due("a BOOK with a FAULT leaves it", x.unused(), 3);
        Check.book(x, SMALL + "ending all tense 0 person 0 'e';");
        CHECK.due("used at the first place alone", x.unused(), 0);
        CHECK.due("its users", x.users(0), 1);
        Check.book(x, SMALL + "verb y of a;except y tense 4 person 5 'e';");
        CHECK.due("used at the last place alone", x.unused(), 0);
        CHECK.due("its users", x.users(0), 1);
        CHECK.due("the first place has none of an earlier BOOK", Check.read(x, "xe"), 0);
        CHECK.due("nor has the drill", x.drill(0), 145);
    }
}
