/** Promises 8 to 15: the forms, their rows, and reading them back. */
public final class FormsTest {
    private static final Check CHECK = new Check("FormsTest");

    public static void main(String[] args) {
        ranges();
        endings();
        stems();
        sounds();
        tooLongOrEmpty();
        excepts();
        lacks();
        compounds();
        rivals();
        reading();
        readingMany();
        usedLines();
        CHECK.finish();
    }

    private static void forms(VerbSchool x, int v, int tense, int person, String due) {
        CHECK.due("forms at " + v + " " + tense + " " + person, Check.forms(x, v, tense, person), due);
    }

    private static void ranges() {
        VerbSchool x = Check.school("class a;verb x of a;ending all tense 0 'e';");
        int[][] wrong = {{-1, 0, 0}, {1, 0, 0}, {0, -1, 0}, {0, 5, 0}, {0, 0, -1}, {0, 0, 6},
            {Integer.MAX_VALUE, 0, 0}, {0, Integer.MIN_VALUE, 0}, {30, 0, 0}};
        for (int[] at : wrong) {
            CHECK.due("forms", x.forms(at[0], at[1], at[2]), -2);
            CHECK.due("rivals", x.rivals(at[0], at[1], at[2]), -2);
            CHECK.due("form", x.form(at[0], at[1], at[2], 0, 0), -1);
            CHECK.due("row", x.row(at[0], at[1], at[2], 0, 0), -1);
        }
        CHECK.due("forms at the edge", x.forms(0, 4, 5), 0);
        CHECK.due("form k -1", x.form(0, 0, 0, -1, 0), -1);
        CHECK.due("form k 1", x.form(0, 0, 0, 1, 0), -1);
        CHECK.due("form i -1", x.form(0, 0, 0, 0, -1), -1);
        CHECK.due("form i 2", x.form(0, 0, 0, 0, 2), -1);
        CHECK.due("form i 1", x.form(0, 0, 0, 0, 1), 'e');
        CHECK.due("row k -1", x.row(0, 0, 0, -1, 0), -1);
        CHECK.due("row k 1", x.row(0, 0, 0, 1, 0), -1);
        CHECK.due("row i -1", x.row(0, 0, 0, 0, -1), -1);
        CHECK.due("row i 1", x.row(0, 0, 0, 0, 1), -1);
        CHECK.due("row i most", x.row(0, 0, 0, 0, Integer.MAX_VALUE), -1);
    }

    private static void endings() {
        VerbSchool x = Check.school("class a;class b;verb x of a;verb y of b;"
            + "ending in b tense 0 'b';ending all tense 0 person 2 'two';ending all tense 0 'all';ending all tense 1 '';");
        forms(x, 0, 0, 2, "xtwo:1");
        forms(x, 0, 0, 3, "xall:2");
        forms(x, 1, 0, 2, "yb:0");
        forms(x, 1, 1, 0, "y:3");
        forms(x, 1, 2, 0, "");
    }

    private static void stems() {
        VerbSchool x = Check.school("class a;class b;verb banana of a;verb kiwi of b;verb aa of a;"
            + "stem in a tense 0 person 1 'an' to 'o';stem all tense 0 'a' to '';stem all tense 0 'i' to 'e';"
            + "stem all tense 1 'a' to 'a';stem all tense 2 'aa' to 'aaaaaaaa';"
            + "ending all tense 0 's';ending all tense 1 't';ending all tense 2 'a';");
        forms(x, 0, 0, 1, "banoas:0,5");
        forms(x, 0, 0, 0, "banans:1,5");
        forms(x, 1, 0, 0, "kiwis:5");
        forms(x, 0, 1, 0, "bananat:3,6");
        forms(x, 2, 2, 0, "aaaaaaaaa:4,7");
        forms(x, 0, 2, 0, "bananaa:7");
    }

    private static void sounds() {
        String words = "class a;verb aaa of a;verb abab of a;verb xaya of a;ending all tense 0 '';ending all tense 1 'a';";
        forms(Check.school(words + "sound 'aa' to 'b';"), 0, 0, 0, "ba:0,2");
        forms(Check.school(words + "sound 'aa' to 'b';"), 0, 1, 0, "bb:1,2");
        forms(Check.school(words + "sound 'aa' to 'b' last;"), 0, 0, 0, "ab:0,2");
        forms(Check.school(words + "sound 'aaaa' to 'b' last;"), 0, 0, 0, "aaa:0");
        forms(Check.school(words + "sound 'aaaa' to 'b' last;"), 0, 1, 0, "b:1,2");
        forms(Check.school(words + "sound 'ab' to 'b';"), 1, 0, 0, "bb:0,2");
        forms(Check.school(words + "sound 'a' to 'ba';"), 1, 0, 0, "babbab:0,2");
        forms(Check.school(words + "sound 'b' to 'a';sound 'aa' to 'c';"), 1, 0, 0, "cc:0,2,3");
        forms(Check.school(words + "sound 'aa' to 'c';sound 'b' to 'a';"), 1, 0, 0, "aaaa:0,3");
        forms(Check.school(words + "sound 'a' to '' last;sound 'x' to 'x';"), 2, 1, 0, "xaya:1,2");
        forms(Check.school(words + "sound 'a' to 'aa' last;"), 2, 0, 0, "xayaa:0,2");
        forms(Check.school(words + "sound 'z' to 'y';sound 'a' to 'o';"), 2, 0, 0, "xoyo:0,3");
    }

    private static void tooLongOrEmpty() {
        String words = "class a;verb aaa of a;verb aaaaaaaaaaaa of a;verb abcdefghijkl of a;";
        VerbSchool x = Check.school(words + "ending all tense 0 'aaa';sound 'aa' to 'aaaa';ending all tense 1 'aaaa';");
        forms(x, 1, 0, 0, "aaaaaaaaaaaaaaaaaaaaaaaaaaaaa:0,1");
        CHECK.due("31 bytes and more are no form", x.forms(1, 1, 0), 0);
        x = Check.school(words + "ending all tense 0 'aaa';sound 'a' to 'bb';");
        CHECK.due("30 bytes", x.forms(1, 0, 0), 1);
        CHECK.due("30 bytes, byte 29", x.form(1, 0, 0, 0, 29), 'b');
        x = Check.school(words + "ending all tense 0 'aaaa';sound 'a' to 'bb';sound 'b' to '';");
        CHECK.due("too long on the way", x.forms(1, 0, 0), 0);
        x = Check.school(words + "ending all tense 0 '';sound 'a' to '';sound 'l' to 'b';");
        CHECK.due("empty", x.forms(0, 0, 0), 0);
        forms(x, 2, 0, 0, "bcdefghijkb:0,1,2");
        x = Check.school("class a;verb a of a;stem all tense 0 'a' to '';ending all tense 0 'b';"
            + "stem all tense 1 'a' to '';ending all tense 1 '';");
        forms(x, 0, 0, 0, "b:0,1");
        CHECK.due("nothing left", x.forms(0, 1, 0), 0);
    }

    private static void excepts() {
        VerbSchool x = Check.school("class a;verb x of a;verb y of a;ending all tense 0 'e';"
            + "except x tense 0 person 1 'one';except x tense 0 'any';except x tense 0 person 1 'uno';except x tense 0 'all';"
            + "except y tense 3 'same';except y tense 3 'same';sound 'an' to 'o';");
        forms(x, 0, 0, 1, "one:1|any:2");
        forms(x, 0, 0, 0, "any:2|all:4");
        forms(x, 0, 1, 0, "");
        forms(x, 1, 0, 1, "ye:0");
        forms(x, 1, 3, 1, "same:5|same:6");
    }

    private static void lacks() {
        VerbSchool x = Check.school("class a;verb x of a;verb y of a;ending all tense 0 'e';except x tense 0 'ex';"
            + "lack x tense 0 person 1;lack y tense 0;compound all tense 0 by x tense 0 part 0;");
        forms(x, 0, 0, 0, "ex:1");
        forms(x, 0, 0, 1, "");
        forms(x, 1, 0, 0, "");
        CHECK.due("rivals in spite of lack", x.rivals(1, 0, 0), 1);
        x = Check.school("class a;verb x of a;ending all tense 0 'e';compound all tense 1 by x tense 0 part 0;lack x tense 1 person 3;");
        forms(x, 0, 1, 2, "xe xe:1,0,0");
        forms(x, 0, 1, 3, "");
    }

    private static void compounds() {
        VerbSchool x = Check.school("class a;class b;verb have of b;verb go of a;verb be of b;"
            + "except have tense 0 person 2 'has';except have tense 0 person 2 'hath';ending all tense 0 '';"
            + "except go tense 1 person 0 'gone';except go tense 1 person 0 'agone';ending all tense 1 'd';"
            + "compound in a tense 2 by have tense 0 part 1;compound all tense 2 by be tense 0 part 0;"
            + "compound in b tense 3 by have tense 3 part 0;compound all tense 4 by go tense 2 part 0;"
            + "lack be tense 1 person 0;ending in b tense 2 'x';sound 'v' to 'f';");
        forms(x, 1, 2, 2, "has gone:6,0,3|has agone:6,0,4|hath gone:6,1,3|hath agone:6,1,4");
        forms(x, 1, 2, 0, "hafe gone:6,2,12,3|hafe agone:6,2,12,4");
        forms(x, 2, 2, 5, "be be:7,2,2");
        forms(x, 0, 2, 5, "be hafe:7,2,2,12");
        forms(x, 0, 3, 0, "");
        forms(x, 0, 4, 0, "");
        CHECK.due("rivals in spite of compound", x.rivals(0, 2, 0), 1);
        x = Check.school("class a;verb abcdefghijkl of a;verb x of a;ending in a tense 0 'abc';ending in a tense 1 'ab';"
            + "compound all tense 2 by abcdefghijkl tense 0 part 1;compound all tense 3 by abcdefghijkl tense 0 part 0;"
            + "except abcdefghijkl tense 4 'ab';compound all tense 4 by x tense 4 part 4;"
            + "sound 'c' to 'c';");
        CHECK.due("30 bytes", x.forms(0, 2, 0), 1);
        CHECK.due("31 bytes", x.forms(0, 3, 0), 0);
        forms(x, 0, 4, 0, "ab:4");
        forms(x, 1, 4, 0, "");
    }

    private static void rivals() {
        VerbSchool x = Check.school("class a;class b;verb x of a;verb y of b;ending all tense 0 'a';ending in a tense 0 'b';"
            + "ending all tense 0 person 3 'c';ending in b tense 1 'd';except x tense 0 'e';stem all tense 0 'x' to 'y';");
        CHECK.due("rivals 0 0 0", x.rivals(0, 0, 0), 2);
        CHECK.due("rivals 0 0 3", x.rivals(0, 0, 3), 3);
        CHECK.due("rivals 1 0 3", x.rivals(1, 0, 3), 2);
        CHECK.due("rivals 0 1 0", x.rivals(0, 1, 0), 0);
        CHECK.due("rivals 1 1 0", x.rivals(1, 1, 0), 1);
    }

    private static void reading() {
        VerbSchool x = Check.school("class a;verb x of a;verb xe of a;ending all tense 1 'e';ending all tense 3 person 4 '';"
            + "except x tense 0 person 5 'xe';except x tense 0 person 5 'xe';compound all tense 2 by x tense 3 part 3;"
            + "except x tense 3 person 0 'p';except x tense 3 person 0 'q';");
        CHECK.due("read xe", Check.read(x, "xe"), 8);
        int[][] due = {{0, 0, 5}, {0, 1, 0}, {0, 1, 1}, {0, 1, 2}, {0, 1, 3}, {0, 1, 4}, {0, 1, 5}, {1, 3, 4}};
        for (int i = 0; i < due.length; i++) {
            for (int what = 0; what < 3; what++) {
                CHECK.due("place(" + i + ", " + what + ")", x.place(i, what), due[i][what]);
            }
        }
        CHECK.due("place(8, 0)", x.place(8, 0), -1);
        CHECK.due("place(-1, 0)", x.place(-1, 0), -1);
        CHECK.due("place(0, 3)", x.place(0, 3), -1);
        CHECK.due("place(0, -1)", x.place(0, -1), -1);
        CHECK.due("read with a blank", Check.read(x, "x q"), 1);
        CHECK.due("its person", x.place(0, 2), 4);
        CHECK.due("read none", Check.read(x, "x"), 1);
        CHECK.due("read a part", Check.read(x, "xee "), 0);
        CHECK.due("places are gone", x.place(0, 0), -1);
        CHECK.due("read nothing", Check.read(x, ""), 0);
        CHECK.due("read a long one", Check.read(x, "x".repeat(400)), 0);
        CHECK.due("read other bytes", Check.read(x, "x" + (char) ('e' + 128)), 0);
    }

    private static void readingMany() {
        StringBuilder text = new StringBuilder("class a;verb x of a;verb y of a;verb z of a;");
        for (char v = 'x'; v <= 'z'; v++) {
            for (int t = 0; t < 5; t++) {
                text.append("except ").append(v).append(" tense ").append(t).append(" 'w';");
            }
        }
        VerbSchool x = Check.school(text.toString());
        CHECK.due("read w", Check.read(x, "w"), 90);
        CHECK.due("verb of place 59", x.place(59, 0), 1);
        CHECK.due("tense of place 59", x.place(59, 1), 4);
        CHECK.due("person of place 59", x.place(59, 2), 5);
        CHECK.due("place 60", x.place(60, 0), -1);
        CHECK.due("place 89", x.place(89, 0), -1);
    }

    private static void usedLines() {
        VerbSchool x = Check.school("class a;class b;verb x of a;verb y of a;ending all tense 0 'e';ending all tense 0 'f';"
            + "ending in b tense 0 'g';stem all tense 0 'y' to 'i';sound 'ie' to 'y';sound 'q' to 'k';lack x tense 1;"
            + "except x tense 0 person 0 'one';except x tense 0 person 0 'two';except x tense 0 'three';"
            + "compound all tense 2 by y tense 0 part 0;");
        int[] due = {6 + 6 + 6, 0, 0, 6 + 6 + 6, 6 + 6 + 6, 0, 0, 1 + 6, 1 + 6, 5, 12};
        for (int l = 0; l < due.length; l++) {
            CHECK.due("users(" + l + ")", x.users(l), due[l]);
        }
        CHECK.due("users(11)", x.users(11), -2);
        CHECK.due("users(-1)", x.users(-1), -2);
        CHECK.due("unused()", x.unused(), 4);
    }
}
