/**
 * The boundary cases that the document names, of Term III and promises 16 to 19. Labels hold the
 * document's words that are tested.
 */
public final class LearnersEdgesTest {
    private static final Check CHECK = new Check("LearnersEdgesTest");
    private static final int LEAST = Integer.MIN_VALUE;
    private static final int MOST = Integer.MAX_VALUE;
    private static final String SMALL = "class a;verb x of a;";

    public static void main(String[] args) {
        answersOutOfRange();
        answersThatAreNoSlips();
        twoChangesAtMost();
        thirtyBytesOnTheWay();
        noBytes();
        stemsTaken();
        endingsTaken();
        exceptsLeftOut();
        soundsLeftOut();
        leastCost();
        fewestChanges();
        firstByStem();
        firstByEnding();
        firstBySounds();
        lineZero();
        nothingOfEarlierBooks();
        changeEdges();
        missesUpTo99();
        missesDownTo0();
        rightByTheFirstForm();
        learnersAreTheirOwn();
        missesOutOfRange();
        latestThree();
        drillEdges();
        drillSums();
        CHECK.finish();
    }

    private static void slip(VerbSchool x, String word, int cost, String changes) {
        slip(x, 0, word, cost, changes);
    }

    /** Of verb 0 at a tense and person 0. */
    private static void slip(VerbSchool x, int tense, String word, int cost, String changes) {
        CHECK.due("answer " + word, Check.answer(x, 0, 0, tense, 0, word), cost);
        CHECK.due("changes of " + word, Check.changes(x), changes);
    }

    private static void none(VerbSchool x, String word) {
        CHECK.due("answer " + word, Check.answer(x, 0, 0, 0, 0, word), -5);
    }

    // ---- what an answer is

    private static void answersOutOfRange() {
        VerbSchool x = Check.school(SMALL + "ending all tense 0 'e';");
        for (int n : new int[] {-1, LEAST, MOST}) {
            outOfRange(x, n, 0, 0, 0);
            outOfRange(x, 0, n, 0, 0);
            outOfRange(x, 0, 0, n, 0);
            outOfRange(x, 0, 0, 0, n);
        }
        outOfRange(x, 8, 0, 0, 0);
        outOfRange(x, 0, 1, 0, 0);
        outOfRange(x, 0, 30, 0, 0);
        outOfRange(x, 0, 0, 5, 0);
        outOfRange(x, 0, 0, 0, 6);
        CHECK.due("none of these is among the latest three", x.drill(0), 0);
        CHECK.due("none of these has an explanation", x.change(0), -9);
        CHECK.due("none of these is a miss", x.misses(0, 0), 0);
        for (int l = 0; l < 8; l++) {
            CHECK.due("learner " + l, Check.answer(x, l, 0, 0, 5, "xe"), 0);
        }
        outOfRange(new VerbSchool(), 0, 0, 0, 0);
    }

    private static void outOfRange(VerbSchool x, int l, int v, int tense, int person) {
        CHECK.due("RANGE " + l + " " + v + " " + tense + " " + person, Check.answer(x, l, v, tense, person, "x"), -2);
        CHECK.due("its tape is read", x.count(3), 0);
    }

    private static void answersThatAreNoSlips() {
        VerbSchool x = Check.school(SMALL + "ending all tense 0 'e';lack x tense 0 person 1;ending all tense 2 'e';compound all tense 2 by x tense 0 part 0;"
            + "except x tense 2 person 3 'p';compound all tense 3 by x tense 4 part 4;");
        CHECK.due("right", Check.answer(x, 0, 0, 0, 0, "xe"), 0);
        CHECK.due("no FORMS: lack", Check.answer(x, 0, 0, 0, 1, "xe"), -5);
        CHECK.due("no FORMS: no ending", Check.answer(x, 0, 0, 1, 0, "x"), -5);
        CHECK.due("no FORMS: nothing told", Check.answer(x, 0, 0, 1, 0, ""), -5);
        CHECK.due("a compound: right", Check.answer(x, 0, 0, 2, 0, "xe xe"), 0);
        CHECK.due("a compound FITS and it is none of them", Check.answer(x, 0, 0, 2, 0, "xe"), -5);
        CHECK.due("a compound FITS, an except: right", Check.answer(x, 0, 0, 2, 3, "p"), 0);
        CHECK.due("a compound FITS, an except: wrong", Check.answer(x, 0, 0, 2, 3, "xe"), -5);
        CHECK.due("a compound FITS, an except: the compound", Check.answer(x, 0, 0, 2, 3, "xe xe"), -5);
        CHECK.due("a compound without FORMS", Check.answer(x, 0, 0, 3, 0, "x x"), -5);
        CHECK.due("no explanation of all", x.change(0), -9);
        CHECK.due("no misses of all", x.misses(0, 0) + x.misses(0, 2) + x.misses(0, 3) + x.misses(0, 4), 0);
        slip(x, "x", 4, "4/0/-1");
        CHECK.due("too long", Check.answer(x, 0, 0, 0, 0, "x".repeat(4000)), -5);
        CHECK.due("31 bytes", Check.answer(x, 0, 0, 0, 0, "x".repeat(31)), -5);
    }

    // ---- what explains it

    private static void twoChangesAtMost() {
        VerbSchool x = Check.school("class a;verb abc of a;ending all tense 0 'd';stem all tense 0 'a' to 'e';sound 'b' to 'f';sound 'c' to 'g';sound 'd' to 'h';");
        CHECK.due("form", Check.forms(x, 0, 0, 0), "efgh:1,0,2,3,4");
        slip(x, "ebgh", 2, "5/2/-1");
        slip(x, "ebch", 4, "5/2/-1 5/3/-1");
        slip(x, "abgh", 4, "1/1/-1 5/2/-1");
        none(x, "ebcd");
        none(x, "abch");
        none(x, "abc");
        CHECK.due("the latest that had one", Check.changes(x), "1/1/-1 5/2/-1");
    }

    private static void thirtyBytesOnTheWay() {
        String verb = "class a;verb aaaaaaaaaaaa of a;ending all tense 0 'a';ending all tense 1 'aaa';ending all tense 2 'aaaa';";
        VerbSchool x = Check.school(verb + "sound 'a' to 'bb';");
        slip(x, "b".repeat(30), 3, "3/0/1");
        none(x, "b".repeat(32));
        x = Check.school(verb + "sound 'a' to 'bb';sound 'b' to '' last;sound 'b' to 'c';");
        slip(x, "c".repeat(29), 3, "3/0/1");
        none(x, "c".repeat(31));
        x = Check.school("class a;verb aaaaaaaaaaaa of a;except aaaaaaaaaaaa tense 0 'q';ending all tense 0 'aaaa';sound 'a' to 'bb';sound 'b' to '';sound 'a' to 'c';");
        CHECK.due("too long with that sound, no FORM of its own", x.forms(0, 0, 0), 1);
        slip(x, "c".repeat(16), 4, "0/0/-1 5/2/-1");
    }

    private static void noBytes() {
        VerbSchool x = Check.school(SMALL + "ending all tense 0 'e';stem all tense 1 'x' to '';sound 'e' to 'o' last;sound 'xo' to 'y';");
        CHECK.due("form", Check.forms(x, 0, 0, 0), "y:0,2,3");
        none(x, "");
        CHECK.due("no explanation", x.change(0), -9);
        slip(x, "o", 3, "2/1/1");
        CHECK.due("an empty tape", x.answer(0, 0, 0, 0), -5);
    }

    private static void stemsTaken() {
        VerbSchool x = Check.school("class a;class b;verb sing of a;ending all tense 0 'e';stem in b tense 4 person 5 'i' to 'o';stem in a tense 0 'i' to 'a';"
            + "stem all tense 0 'i' to 'u';stem all tense 3 'q' to 'r';");
        CHECK.due("form", Check.forms(x, 0, 0, 0), "sange:2,0");
        slip(x, "singe", 2, "1/2/-1");
        slip(x, "songe", 3, "2/2/1");
        slip(x, "sunge", 3, "2/2/3");
        CHECK.due("of the stem that FITS", x.misses(0, 2), 3);
        CHECK.due("not of those taken", x.misses(0, 1) + x.misses(0, 3), 0);
        x = Check.school("class a;verb sing of a;ending all tense 0 'e';stem all tense 1 'i' to 'a';stem all tense 2 'i' to 'a';");
        slip(x, "sange", 3, "2/1/1");
        CHECK.due("else of the one taken", x.misses(0, 1), 1);
        x = Check.school("class a;verb sing of a;ending all tense 0 'e';stem all tense 0 'q' to 'r';stem all tense 1 'i' to 'a';");
        slip(x, "sange", 3, "2/1/2");
        CHECK.due("of one that FITS though it doesn't stand there", x.misses(0, 1), 1);
    }

    private static void endingsTaken() {
        VerbSchool x = Check.school("class a;class b;verb x of a;ending all tense 0 'e';ending in b tense 4 person 5 'o';ending all tense 0 'u';ending all tense 1 '';");
        slip(x, "xo", 3, "3/0/1");
        slip(x, "xu", 3, "3/0/2");
        slip(x, "x", 3, "3/0/3");
        CHECK.due("of the ending that FITS", x.misses(0, 0), 3);
        CHECK.due("not of those taken", x.misses(0, 1) + x.misses(0, 2) + x.misses(0, 3), 0);
        slip(Check.school(SMALL + "ending all tense 0 'e';"), "x", 4, "4/0/-1");
    }

    private static void exceptsLeftOut() {
        VerbSchool x = Check.school(SMALL + "except x tense 0 'p';except x tense 0 person 0 'q';except x tense 0 person 0 'r';ending all tense 1 'e';");
        none(x, "r");
        slip(x, "xe", 5, "0/0/-1 3/3/3");
        CHECK.due("no ending FITS: of the one taken", x.misses(0, 3), 1);
        slip(x, "x", 6, "0/0/-1 4/-1/-1");
        CHECK.due("NONE if there is none either", x.misses(0, 3), 1);
        CHECK.due("the first except that FITS", x.misses(0, 0) * 100 + x.misses(0, 1) * 10 + x.misses(0, 2), 200);
        x = Check.school(SMALL + "ending all tense 0 'e';ending all tense 1 'o';except x tense 0 'p';sound 'xe' to 'y';sound 'xo' to 'z';stem all tense 2 'x' to 'k';");
        slip(x, "y", 2, "0/2/-1");
        slip(x, "xe", 4, "0/2/-1 5/3/-1");
        slip(x, "z", 5, "0/2/-1 3/0/1");
        slip(x, "ke", 5, "0/2/-1 2/5/5");
        slip(x, "x", 6, "0/2/-1 4/0/-1");
        none(x, "xo");
        none(x, "ko");
        none(x, "k");
        x = Check.school(SMALL + "except x tense 0 'p';");
        slip(x, "x", 6, "0/0/-1 4/-1/-1");
        none(x, "");
    }

    private static void soundsLeftOut() {
        VerbSchool x = Check.school(SMALL + "ending all tense 0 'e';sound 'e' to 'o' last;sound 'x' to 'y';sound 'q' to 'r';sound 'x' to 'z';");
        CHECK.due("form", Check.forms(x, 0, 0, 0), "yo:0,1,2");
        slip(x, "ye", 2, "5/1/-1");
        slip(x, "zo", 2, "5/2/-1");
        slip(x, "ze", 4, "5/1/-1 5/2/-1");
        slip(x, "xo", 4, "5/2/-1 5/4/-1");
        none(x, "xe");
        CHECK.due("each sound once an answer", x.misses(0, 1) * 100 + x.misses(0, 2) * 10 + x.misses(0, 4), 231);
    }

    private static void leastCost() {
        VerbSchool x = Check.school("class a;verb xa of a;ending all tense 0 'e';ending all tense 1 'o';sound 'e' to 'o';sound 'o' to 'u' last;");
        CHECK.due("form", Check.forms(x, 0, 0, 0), "xau:0,2,3");
        slip(x, "xao", 2, "5/3/-1");
        slip(x, "xae", 2, "5/2/-1");
        x = Check.school("class a;verb ab of a;stem all tense 0 'a' to 'c';stem all tense 1 'b' to 'b';ending all tense 0 'd';");
        slip(x, "abd", 2, "1/0/-1");
        x = Check.school("class a;verb ab of a;ending all tense 0 'c';ending all tense 1 '';");
        slip(x, "ab", 3, "3/0/1");
    }

    private static void fewestChanges() {
        VerbSchool x = Check.school("class a;verb a of a;ending all tense 0 'b';sound 'ab' to 'c';sound 'ab' to 'd';sound 'b' to '';");
        slip(x, "a", 4, "4/0/-1");
        x = Check.school("class a;verb a of a;stem all tense 0 'a' to 'e';ending all tense 0 'b';sound 'ab' to 'c';sound 'c' to 'e';sound 'b' to 'bb';");
        CHECK.due("form", Check.forms(x, 0, 0, 0), "ebb:0,1,4");
        slip(x, "e", 2, "1/0/-1");
        x = Check.school("class a;verb a of a;stem all tense 0 'a' to 'e';ending all tense 0 'b';sound 'ab' to 'g';sound 'b' to 'bb';sound 'a' to 'e';");
        CHECK.due("form", Check.forms(x, 0, 0, 0), "ebb:0,1,3");
        slip(x, "e", 4, "4/1/-1");
    }

    private static void firstByStem() {
        VerbSchool x = Check.school("class a;verb ab of a;stem all tense 1 'a' to 'c';stem all tense 2 'a' to 'c';ending all tense 0 'd';stem all tense 3 'a' to 'c';");
        slip(x, "cbd", 3, "2/0/0");
        x = Check.school("class a;verb ab of a;stem all tense 0 'a' to 'e';stem all tense 1 'a' to 'c';stem all tense 2 'a' to 'c';ending all tense 0 'd';");
        slip(x, "cbd", 3, "2/0/1");
        x = Check.school("class a;verb ab of a;stem all tense 0 'a' to 'c';ending all tense 0 'd';sound 'c' to 'e';sound 'e' to 'a' last;sound 'e' to 'a';");
        CHECK.due("form", Check.forms(x, 0, 0, 0), "abd:0,1,2,4");
        slip(x, "cbd", 2, "5/2/-1");
        x = Check.school("class a;verb ab of a;stem all tense 0 'b' to 'c';ending all tense 0 'd';sound 'bd' to 'k';sound 'cd' to 'f';sound 'cd' to 'k';");
        CHECK.due("form", Check.forms(x, 0, 0, 0), "af:0,1,3");
        slip(x, "ak", 2, "5/3/-1");
        CHECK.due("the one that FITS (a sound left out) ahead of the stem left out", x.misses(0, 0), 0);
        x = Check.school("class a;verb ab of a;ending all tense 0 'd';ending all tense 1 'bd';stem all tense 1 'b' to 'bb';");
        slip(x, "abbd", 3, "3/0/1");
        CHECK.due("none of itself ahead of another stem", x.misses(0, 2), 0);
        x = Check.school("class a;verb ab of a;stem all tense 0 'b' to 'c';ending all tense 0 'd';sound 'k' to 'k';stem all tense 1 'b' to 'e';ending all tense 1 'f';"
            + "ending all tense 2 'g';sound 'bf' to 'h';sound 'eg' to 'h';sound 'cf' to 'cff';sound 'eg' to 'i';");
        slip(x, "ah", 5, "1/0/-1 3/1/4");
    }

    private static void firstByEnding() {
        VerbSchool x = Check.school("class a;verb ab of a;ending all tense 1 'e';ending all tense 0 'd';ending all tense 2 'e';");
        slip(x, "abe", 3, "3/1/0");
        x = Check.school("class a;verb ab of a;ending all tense 0 'd';ending all tense 1 'e';ending all tense 2 'f';sound 'f' to 'e';");
        slip(x, "abe", 3, "3/0/1");
        x = Check.school("class a;verb ab of a;ending all tense 0 'd';ending all tense 1 'f';ending all tense 2 'e';sound 'f' to 'e';");
        slip(x, "abe", 3, "3/0/1");
        x = Check.school("class a;verb ab of a;stem all tense 0 'b' to 'c';ending all tense 0 'd';sound 'cd' to 'e';sound 'd' to '';");
        CHECK.due("form", Check.forms(x, 0, 0, 0), "ae:0,1,2");
        slip(x, "ac", 2, "5/2/-1");
        x = Check.school("class a;verb ab of a;ending all tense 0 'c';sound 'bc' to 'd';sound 'bc' to 'e';sound 'c' to '';ending all tense 1 'cc';");
        slip(x, "ab", 4, "4/0/-1");
        x = Check.school("class a;verb ab of a;ending all tense 0 'd';ending all tense 1 'e';sound 'be' to 'bf';sound 'b' to 'b';sound 'f' to 'ff';"
            + "except ab tense 0 'q';sound 'bd' to 'bfff';sound 'fff' to 'g';");
        CHECK.due("form", Check.forms(x, 0, 0, 0), "q:5");
        slip(x, "abg", 2, "0/5/-1");
    }

    private static void firstBySounds() {
        VerbSchool x = Check.school("class a;verb a of a;ending all tense 0 '';sound 'a' to 'b';sound 'b' to 'c';sound 'c' to 'd';sound 'a' to 'b';sound 'b' to 'd';");
        CHECK.due("form", Check.forms(x, 0, 0, 0), "d:0,1,2,3");
        slip(x, "c", 2, "5/3/-1");
        slip(x, "b", 4, "5/1/-1 5/5/-1");
        slip(x, "a", 4, "5/1/-1 5/4/-1");
        x = Check.school("class a;verb ab of a;ending all tense 0 '';sound 'a' to 'c';sound 'c' to 'd';sound 'db' to 'eb';");
        CHECK.due("form", Check.forms(x, 0, 0, 0), "eb:0,1,2,3");
        slip(x, "ab", 2, "5/1/-1");
        slip(x, "cb", 2, "5/2/-1");
        slip(x, "db", 2, "5/3/-1");
        x = Check.school("class a;verb a of a;ending all tense 0 '';sound 'a' to 'b';sound 'a' to 'x';sound 'b' to 'x';sound 'x' to 'y';");
        slip(x, "x", 2, "5/4/-1");
        slip(x, "b", 2, "5/3/-1");
        x = Check.school("class a;verb a of a;ending all tense 0 '';sound 'a' to 'b';sound 'b' to 'c';sound 'ab' to 'q';sound 'a' to 'd';sound 'c' to 'e';sound 'b' to 'd';"
            + "sound 'e' to 'f';");
        CHECK.due("form", Check.forms(x, 0, 0, 0), "f:0,1,2,5,7");
        slip(x, "d", 2, "5/1/-1");
        CHECK.due("the lesser number: 1 ahead of 2", x.misses(0, 2), 0);
    }

    /** A LINE of each KIND as the first one of all. */
    private static void lineZero() {
        VerbSchool x = Check.school(SMALL + "stem all tense 0 'x' to 'y';ending all tense 0 'e';");
        slip(x, "xe", 2, "1/0/-1");
        CHECK.due("stem: drill", x.drill(0), 1);
        x = Check.school(SMALL + "stem all tense 1 'x' to 'y';ending all tense 0 'e';");
        slip(x, "ye", 3, "2/0/0");
        x = Check.school(SMALL + "ending all tense 1 'o';ending all tense 0 'e';");
        slip(x, "xo", 3, "3/1/0");
        x = Check.school(SMALL + "sound 'y' to 'z';verb y of a;ending all tense 0 'e';sound 'e' to 'o';");
        CHECK.due("a sound", Check.answer(x, 0, 1, 0, 0, "yo"), 2);
        CHECK.due("it is LINE 0", Check.changes(x), "5/0/-1");
        CHECK.due("its misses", x.misses(0, 0), 1);
        CHECK.due("its drill", x.drill(0), 101);
        CHECK.due("two sounds", Check.answer(x, 0, 1, 0, 0, "ye"), 4);
        CHECK.due("they are", Check.changes(x), "5/0/-1 5/2/-1");
        Check.answer(x, 0, 1, 0, 0, "zo");
        CHECK.due("1 off it", x.misses(0, 0), 1);
        x = Check.school(SMALL + "compound all tense 0 by x tense 1 part 1;except x tense 0 'p';ending all tense 0 'e';");
        CHECK.due("a compound FITS", Check.answer(x, 0, 0, 0, 0, "xe"), -5);
        x = Check.school(SMALL + "except x tense 0 'p';ending all tense 0 'e';");
        slip(x, "xe", 2, "0/0/-1");
        CHECK.due("except: misses", x.misses(0, 0), 1);
    }

    /** A way by a LINE that is told no more is none. */
    private static void nothingOfEarlierBooks() {
        String[] lines = {"ending all tense 1 'o';", "stem all tense 1 'x' to 'xo';", "sound 'e' to 'o';"};
        for (String line : lines) {
            VerbSchool x = Check.school(SMALL + "ending all tense 0 'e';" + line);
            Check.book(x, SMALL + "ending all tense 0 'e';" + line);
            Check.book(x, SMALL + "ending all tense 0 'e';");
            none(x, "xo");
            none(x, "xoe");
            CHECK.due("right", Check.answer(x, 0, 0, 0, 0, "xe"), 0);
        }
        VerbSchool x = Check.school(SMALL + "ending all tense 0 'e';");
        Check.read(x, "xe");
        CHECK.due("a place", x.drill(0), 0);
        Check.book(x, SMALL + "ending all tense 1 'e';");
        CHECK.due("another place", x.drill(0), 10);
        CHECK.due("6 places", Check.read(x, "xe"), 6);
        CHECK.due("the first of them", x.place(0, 1), 1);
    }

    // ---- promise 17

    private static void changeEdges() {
        VerbSchool x = Check.school(SMALL + "ending all tense 0 'e';sound 'e' to 'o';sound 'x' to 'y';");
        for (int what : new int[] {0, 10, 11, 20, 21, 30, 31}) {
            CHECK.due("none at first " + what, x.change(what), -9);
        }
        slip(x, "ye", 2, "5/1/-1");
        CHECK.due("one CHANGE", x.change(0), 1);
        CHECK.due("the LINE taken instead (NONE)", x.change(30), -1);
        for (int what : new int[] {-1, 1, 2, 9, 11, 12, 19, 21, 22, 29, 31, 32, 40, 50, 100, 110, 210, -10, -20, LEAST, MOST}) {
            CHECK.due("none such " + what, x.change(what), -9);
        }
        slip(x, "xe", 4, "5/1/-1 5/2/-1");
        CHECK.due("two CHANGES", x.change(0), 2);
        for (int what : new int[] {1, 9, 12, 22, 32, 41, 111, LEAST + 1, MOST - 1}) {
            CHECK.due("none such " + what, x.change(what), -9);
        }
        slip(x, "yo", 0, "5/1/-1 5/2/-1");
        Check.read(x, "yo");
        CHECK.due("read() leaves it", Check.changes(x), "5/1/-1 5/2/-1");
        slip(x, "ye", 2, "5/1/-1");
        CHECK.due("one CHANGE again", x.change(11), -9);
    }

    // ---- promise 18

    private static void missesUpTo99() {
        VerbSchool x = Check.school(SMALL + "ending all tense 0 'e';");
        x.feed(0x78000000, 0, 0, 0, 0);
        for (int i = 1; i <= 100; i++) {
            x.end(1);
            CHECK.due("answer " + i, x.answer(3, 0, 0, 0), 4);
            if (i >= 98) {
                CHECK.due("up to 99", x.misses(3, 0), Math.min(i, 99));
            }
            x.feed(0x78000000, 0, 0, 0, 0);
        }
        x.end(0);
        Check.answer(x, 3, 0, 0, 0, "xe");
        CHECK.due("99, then 98", x.misses(3, 0), 98);
    }

    private static void missesDownTo0() {
        VerbSchool x = Check.school(SMALL + "ending all tense 0 'e';sound 'e' to 'o';");
        Check.answer(x, 0, 0, 0, 0, "xo");
        CHECK.due("not below 0", x.misses(0, 0) * 10 + x.misses(0, 1), 0);
        Check.answer(x, 0, 0, 0, 0, "xe");
        CHECK.due("1 to the LINE MISSED alone", x.misses(0, 0) * 10 + x.misses(0, 1), 1);
        Check.answer(x, 0, 0, 0, 0, "q");
        CHECK.due("one without an explanation changes nothing", x.misses(0, 0) * 10 + x.misses(0, 1), 1);
        Check.answer(x, 0, 0, 0, 5, "xo");
        CHECK.due("right at another place with that LINE", x.misses(0, 1), 0);
        Check.answer(x, 0, 0, 0, 5, "xo");
        CHECK.due("down to 0", x.misses(0, 1), 0);
    }

    private static void rightByTheFirstForm() {
        VerbSchool x = Check.school(SMALL + "except x tense 0 'p';except x tense 0 person 1 'p';ending all tense 0 'e';except x tense 1 person 1 'q';"
            + "except x tense 0 person 2 'r';compound all tense 3 by x tense 0 part 0;");
        Check.answer(x, 0, 0, 0, 1, "xe");
        CHECK.due("the first except", x.misses(0, 0), 1);
        Check.answer(x, 0, 0, 0, 1, "p");
        CHECK.due("the first FORM that it is", x.misses(0, 0), 0);
        Check.answer(x, 0, 0, 0, 2, "xe");
        Check.answer(x, 0, 0, 0, 2, "r");
        CHECK.due("the second FORM's ROW alone", x.misses(0, 0), 1);
        Check.answer(x, 0, 0, 3, 1, "p p");
        CHECK.due("a compound's ROW: 1 off each LINE", x.misses(0, 0), 0);
        Check.answer(x, 0, 0, 0, 0, "xe");
        Check.answer(x, 0, 0, 0, 0, "xe");
        Check.answer(x, 0, 0, 3, 0, "p p");
        CHECK.due("once, though it stands there twice", x.misses(0, 0), 1);
    }

    private static void learnersAreTheirOwn() {
        VerbSchool x = Check.school(SMALL + "ending all tense 0 'e';");
        for (int l = 0; l < 8; l++) {
            for (int n = 0; n <= l; n++) {
                Check.answer(x, l, 0, 0, n % 3, "x");
            }
        }
        for (int l = 0; l < 8; l++) {
            CHECK.due("misses of learner " + l, x.misses(l, 0), l + 1);
            CHECK.due("drill of learner " + l, x.drill(l), l == 0 ? 1 : l == 1 ? 2 : 3);
        }
    }

    private static void missesOutOfRange() {
        VerbSchool x = Check.school(SMALL + "lack x tense 0;".repeat(60));
        CHECK.due("the last of all", x.misses(7, 59), 0);
        for (int n : new int[] {-1, LEAST, MOST}) {
            CHECK.due("no learner " + n, x.misses(n, 0), -2);
            CHECK.due("no LINE " + n, x.misses(0, n), -2);
            CHECK.due("no drill of " + n, x.drill(n), -2);
        }
        CHECK.due("learner 8", x.misses(8, 0), -2);
        CHECK.due("LINE 60", x.misses(0, 60), -2);
        CHECK.due("drill(8)", x.drill(8), -2);
        Check.book(x, SMALL + "ending all tense 0 'e';");
        CHECK.due("LINE 1 of 1", x.misses(0, 1), -2);
        CHECK.due("LINE 0 of 1", x.misses(0, 0), 0);
    }

    // ---- promise 19

    private static void latestThree() {
        VerbSchool x = Check.school(SMALL + "ending all tense 0 'e';");
        int[] places = {0, 1, 2, 3, 0, 1};
        int[] due = {1, 2, 3, 0, 1, 2};
        for (int i = 0; i < places.length; i++) {
            CHECK.due("right", Check.answer(x, 0, 0, 0, places[i], "xe"), 0);
            CHECK.due("not among the latest three, after " + i, x.drill(0), due[i]);
        }
        x = Check.school(SMALL + "ending all tense 0 'e';");
        CHECK.due("-5", Check.answer(x, 0, 0, 0, 0, "q"), -5);
        CHECK.due("-5 is among them", x.drill(0), 1);
        CHECK.due("4", Check.answer(x, 0, 0, 0, 1, "x"), 4);
        CHECK.due("an explained one is among them", x.drill(0), 2);
        CHECK.due("-5 without FORMS", Check.answer(x, 0, 0, 1, 0, "x"), -5);
        CHECK.due("all three", x.drill(0), 2);
        CHECK.due("-5 without FORMS", Check.answer(x, 0, 0, 1, 1, "x"), -5);
        CHECK.due("one without FORMS puts the first out", x.drill(0), 0);
        CHECK.due("RANGE", Check.answer(x, 0, 0, 0, 6, "x"), -2);
        CHECK.due("RANGE", Check.answer(x, 0, 9, 0, 0, "x"), -2);
        CHECK.due("RANGE isn't among them: 1 still is", x.drill(0), 0);
        Check.answer(x, 0, 0, 0, 0, "xe");
        CHECK.due("0 is, and 1 no more", x.drill(0), 1);
    }

    private static void drillEdges() {
        VerbSchool x = new VerbSchool();
        CHECK.due("NONE of an empty BOOK", x.drill(0), -1);
        Check.book(x, SMALL + "stem all tense 0 'x' to 'y';");
        CHECK.due("NONE without FORMS", x.drill(0), -1);
        Check.book(x, "class a;" + Check.verbs(30) + "except bbbb tense 4 person 5 'e';");
        CHECK.due("the last place of all", x.drill(7), 2945);
        Check.answer(x, 7, 29, 4, 5, "e");
        CHECK.due("it is the only one", x.drill(7), -1);
        CHECK.due("of this learner", x.drill(6), 2945);
        Check.answer(x, 7, 0, 0, 0, "e");
        Check.answer(x, 7, 0, 0, 0, "e");
        CHECK.due("the third of three", x.drill(7), -1);
        Check.answer(x, 7, 0, 0, 1, "e");
        CHECK.due("the fourth", x.drill(7), 2945);
        Check.book(x, SMALL + "except x tense 0 person 0 'a';except x tense 1 person 0 'a';except x tense 2 person 0 'a';");
        Check.answer(x, 0, 0, 0, 0, "a");
        Check.answer(x, 0, 0, 1, 0, "a");
        CHECK.due("one is left", x.drill(0), 20);
        Check.answer(x, 0, 0, 2, 0, "a");
        CHECK.due("all three are among them", x.drill(0), -1);
    }

    private static void drillSums() {
        VerbSchool x = Check.school(SMALL + "verb y of a;ending all tense 0 'e';ending all tense 1 'o';sound 'y' to 'yy';compound all tense 2 by y tense 1 part 1;");
        CHECK.due("all 0: the first", x.drill(0), 0);
        Check.answer(x, 0, 1, 1, 0, "yo");
        CHECK.due("the sound: the first place with it, by the helper", x.drill(0), 20);
        Check.answer(x, 0, 0, 1, 0, "x");
        CHECK.due("the ending and the sound together, each once: the compound's first place", x.drill(0), 20);
        Check.answer(x, 0, 0, 2, 0, "q");
        CHECK.due("then the next of as many", x.drill(0), 21);
        x = Check.school(SMALL + "verb y of a;except x tense 0 person 0 'p';except x tense 0 person 0 'q';ending all tense 0 'e';except y tense 3 'r';"
            + "compound in a tense 4 by y tense 3 part 3;lack x tense 3;");
        Check.answer(x, 0, 1, 3, 0, "y");
        CHECK.due("the except and the compound's ROW hold it: the first by verb, tense, person", x.drill(0), 131);
        Check.answer(x, 0, 1, 3, 0, "r");
        CHECK.due("none are missed", x.drill(0), 0);
    }
}
