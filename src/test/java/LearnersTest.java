/** Promises 16 to 19: answers, explanations, misses and drills. */
public final class LearnersTest {
    private static final Check CHECK = new Check("LearnersTest");

    public static void main(String[] args) {
        ranges();
        costs();
        noStemOfItsOwn();
        order();
        fewestChanges();
        excepts();
        exceptsWithoutEnding();
        compounds();
        impossibleWords();
        explanationStays();
        counting();
        rowsThatHoldALineTwice();
        latestThree();
        drills();
        CHECK.finish();
    }

    private static void slip(VerbSchool x, int v, int tense, int person, String word, int cost, String changes) {
        CHECK.due("answer " + word, Check.answer(x, 0, v, tense, person, word), cost);
        CHECK.due("changes of " + word, Check.changes(x), changes);
    }

    private static void ranges() {
        VerbSchool x = Check.school("class a;verb x of a;ending all tense 0 'e';");
        CHECK.due("learner -1", Check.answer(x, -1, 0, 0, 0, "xe"), -2);
        CHECK.due("learner 8", Check.answer(x, 8, 0, 0, 0, "xe"), -2);
        CHECK.due("verb 1", Check.answer(x, 0, 1, 0, 0, "xe"), -2);
        CHECK.due("tense 5", Check.answer(x, 0, 0, 5, 0, "xe"), -2);
        CHECK.due("person 6", Check.answer(x, 0, 0, 0, 6, "xe"), -2);
        CHECK.due("person -1", Check.answer(x, 0, 0, 0, -1, "xe"), -2);
        CHECK.due("none of them counts", x.drill(0), 0);
        CHECK.due("learner 7", Check.answer(x, 7, 0, 0, 0, "xe"), 0);
        CHECK.due("misses(8, 0)", x.misses(8, 0), -2);
        CHECK.due("misses(-1, 0)", x.misses(-1, 0), -2);
        CHECK.due("misses(0, 1)", x.misses(0, 1), -2);
        CHECK.due("misses(0, -1)", x.misses(0, -1), -2);
        CHECK.due("misses(7, 0)", x.misses(7, 0), 0);
        CHECK.due("drill(8)", x.drill(8), -2);
        CHECK.due("no forms", Check.answer(x, 0, 0, 1, 0, "xe"), -5);
    }

    private static void costs() {
        VerbSchool x = Check.school("class a;class b;verb sing of a;ending all tense 0 'ed';ending in b tense 3 'on';"
            + "stem all tense 0 'i' to 'a';stem in b tense 4 'ng' to 'x';sound 'ge' to 'je';sound 'd' to 't' last;");
        CHECK.due("form", Check.forms(x, 0, 0, 0), "sanjet:2,0,4,5");
        slip(x, 0, 0, 0, "sinjet", 2, "1/2/-1");
        slip(x, 0, 0, 0, "sixet", 3, "2/2/3");
        slip(x, 0, 0, 0, "sangon", 3, "3/0/1");
        slip(x, 0, 0, 0, "sang", 4, "4/0/-1");
        slip(x, 0, 0, 0, "sanget", 2, "5/4/-1");
        slip(x, 0, 0, 0, "sanjed", 2, "5/5/-1");
        slip(x, 0, 0, 0, "sanged", 4, "5/4/-1 5/5/-1");
        slip(x, 0, 0, 0, "singet", 4, "1/2/-1 5/4/-1");
        slip(x, 0, 0, 0, "singon", 5, "1/2/-1 3/0/1");
        slip(x, 0, 0, 0, "sixed", 5, "2/2/3 5/5/-1");
        slip(x, 0, 0, 0, "sing", 6, "1/2/-1 4/0/-1");
        slip(x, 0, 0, 0, "sixon", 6, "2/2/3 3/0/1");
        slip(x, 0, 0, 0, "six", 7, "2/2/3 4/0/-1");
        CHECK.due("three changes", Check.answer(x, 0, 0, 0, 0, "singed"), -5);
        CHECK.due("other words", Check.answer(x, 0, 0, 0, 0, "song"), -5);
        CHECK.due("change(12)", x.change(12), -9);
        CHECK.due("change(1)", x.change(1), -9);
        CHECK.due("change(9)", x.change(9), -9);
        CHECK.due("change(40)", x.change(40), -9);
        CHECK.due("change(-10)", x.change(-10), -9);
        CHECK.due("change(110)", x.change(110), -9);
    }

    private static void noStemOfItsOwn() {
        VerbSchool x = Check.school("class a;class b;verb sing of a;ending in a tense 0 'e';stem in b tense 4 'i' to 'u';"
            + "stem all tense 0 person 5 'x' to 'y';");
        slip(x, 0, 0, 0, "sunge", 3, "2/1/1");
        CHECK.due("the one taken is missed", x.misses(0, 1), 1);
        slip(x, 0, 0, 0, "sung", 7, "2/1/1 4/0/-1");
        slip(x, 0, 0, 5, "sunge", 3, "2/2/1");
    }

    private static void order() {
        VerbSchool x = Check.school("class a;verb ba of a;ending all tense 0 'c';stem all tense 1 'a' to 'o';stem all tense 1 'ba' to 'bo';"
            + "ending all tense 1 'd';ending all tense 2 'd';sound 'c' to 'e';sound 'e' to 'c';sound 'ba' to 'k';sound 'bo' to 'bo';");
        CHECK.due("form", Check.forms(x, 0, 0, 0), "kc:0,5,6,7");
        slip(x, 0, 0, 0, "boc", 3, "2/1/1");
        slip(x, 0, 0, 0, "kd", 3, "3/0/3");
        slip(x, 0, 0, 0, "bad", 5, "3/0/3 5/7/-1");
        x = Check.school("class a;verb ab of a;ending all tense 0 'ab';sound 'a' to 'x';sound 'a' to 'y';sound 'x' to 'a';sound 'a' to 'z';");
        CHECK.due("form", Check.forms(x, 0, 0, 0), "zbzb:0,1,3,4");
        slip(x, 0, 0, 0, "ybyb", 2, "5/1/-1");
        slip(x, 0, 0, 0, "xbxb", 2, "5/3/-1");
        slip(x, 0, 0, 0, "abab", 2, "5/4/-1");
        x = Check.school("class a;verb a of a;ending all tense 0 '';sound 'a' to 'b';sound 'a' to 'b';sound 'b' to 'c';sound 'b' to 'c';");
        slip(x, 0, 0, 0, "a", 4, "5/1/-1 5/2/-1");
        slip(x, 0, 0, 0, "b", 4, "5/3/-1 5/4/-1");
    }

    private static void fewestChanges() {
        VerbSchool x = Check.school("class a;verb a of a;ending all tense 0 'b';sound 'b' to 'c';sound 'ac' to 'acd';sound 'ab' to 'a';");
        CHECK.due("form", Check.forms(x, 0, 0, 0), "acd:0,1,2");
        slip(x, 0, 0, 0, "a", 2, "5/1/-1");
        x = Check.school("class a;verb ax of a;ending all tense 0 'b';sound 'b' to 'c';sound 'xc' to 'xe';sound 'xb' to 'x';sound 'x' to 'x';"
            + "stem all tense 0 'x' to 'q';");
        CHECK.due("form", Check.forms(x, 0, 0, 0), "aqc:5,0,1");
        slip(x, 0, 0, 0, "ax", 4, "1/5/-1 5/1/-1");
        x = Check.school("class a;verb ax of a;ending all tense 0 'b';sound 'b' to 'd';sound 'd' to '';sound 'xb' to 'xc';sound 'x' to 'y' last;");
        CHECK.due("form", Check.forms(x, 0, 0, 0), "ay:0,1,2,4");
        slip(x, 0, 0, 0, "ax", 2, "5/4/-1");
        x = Check.school("class a;verb a of a;ending all tense 0 'bc';sound 'b' to 'bd';sound 'dc' to 'dce';sound 'bc' to '';");
        CHECK.due("form", Check.forms(x, 0, 0, 0), "abdce:0,1,2");
        slip(x, 0, 0, 0, "abdc", 2, "5/2/-1");
        slip(x, 0, 0, 0, "a", 2, "5/1/-1");
        x = Check.school("class a;verb a of a;ending all tense 0 'bc';sound 'b' to '';sound 'c' to 'd' last;sound 'ad' to 'af';sound 'ac' to 'ae';"
            + "sound 'abd' to 'a';");
        CHECK.due("form", Check.forms(x, 0, 0, 0), "af:0,1,2,3");
        slip(x, 0, 0, 0, "a", 2, "5/1/-1");
        x = Check.school("class a;verb a of a;ending all tense 0 'b';sound 'b' to 'c';sound 'c' to 'd';sound 'b' to '';");
        CHECK.due("form", Check.forms(x, 0, 0, 0), "ad:0,1,2");
        slip(x, 0, 0, 0, "a", 2, "5/1/-1");
        x = Check.school("class a;verb a of a;stem all tense 0 'a' to 'e';ending all tense 0 'b';sound 'ab' to 'eg';sound 'eb' to 'ec';sound 'g' to '';");
        CHECK.due("form", Check.forms(x, 0, 0, 0), "ec:0,1,3");
        slip(x, 0, 0, 0, "e", 2, "1/0/-1");
        x = Check.school("class a;verb a of a;stem all tense 0 'a' to 'e';ending all tense 0 'b';sound 'ab' to 'e';sound 'e' to 'd' last;sound 'eb' to 'ec';");
        CHECK.due("form", Check.forms(x, 0, 0, 0), "ec:0,1,4");
        slip(x, 0, 0, 0, "d", 2, "1/0/-1");
        slip(x, 0, 0, 0, "e", 4, "1/0/-1 5/3/-1");
        x = Check.school("class a;verb a of a;stem all tense 0 'a' to 'e';ending all tense 0 'b';sound 'ab' to 'ef';sound 'f' to '';sound 'eb' to 'ec';"
            + "sound 'e' to 'i' last;ending all tense 1 'f';");
        CHECK.due("form", Check.forms(x, 0, 0, 0), "ec:0,1,4");
        slip(x, 0, 0, 0, "i", 2, "1/0/-1");
        x = Check.school("class a;verb a of a;ending all tense 0 'b';sound 'ab' to 'c';sound 'b' to '';sound 'c' to 'd';");
        CHECK.due("form", Check.forms(x, 0, 0, 0), "d:0,1,3");
        CHECK.due("one change of 2 ahead of one of 4", Check.answer(x, 0, 0, 0, 0, "a"), 2);
        x = Check.school("class a;verb a of a;ending all tense 0 'b';sound 'ab' to 'c';sound 'ab' to 'd';sound 'b' to '';");
        CHECK.due("no ending (1 change, 4) ahead of two sounds (2 changes, 4)", Check.answer(x, 0, 0, 0, 0, "a"), 4);
        CHECK.due("it is the ending", Check.changes(x), "4/0/-1");
    }

    private static void excepts() {
        VerbSchool x = Check.school("class a;verb go of a;ending all tense 0 'ed';except go tense 0 person 0 'went';"
            + "except go tense 0 'gone';except go tense 0 person 0 'wend';sound 'oe' to 'o';stem all tense 1 'o' to 'a';ending all tense 1 'n';");
        CHECK.due("first", Check.answer(x, 0, 0, 0, 0, "went"), 0);
        CHECK.due("second", Check.answer(x, 0, 0, 0, 0, "gone"), 0);
        CHECK.due("third is none", Check.answer(x, 0, 0, 0, 0, "wend"), -5);
        slip(x, 0, 0, 0, "god", 2, "0/1/-1");
        slip(x, 0, 0, 1, "god", 2, "0/2/-1");
        slip(x, 0, 0, 0, "goed", 4, "0/1/-1 5/4/-1");
        slip(x, 0, 0, 0, "gaed", 5, "0/1/-1 2/5/5");
        slip(x, 0, 0, 0, "gon", 5, "0/1/-1 3/0/6");
        slip(x, 0, 0, 0, "go", 6, "0/1/-1 4/0/-1");
        CHECK.due("three changes", Check.answer(x, 0, 0, 0, 0, "gan"), -5);
        CHECK.due("misses of the except", x.misses(0, 1), 5);
        CHECK.due("misses of the other except", x.misses(0, 2), 1);
    }

    private static void exceptsWithoutEnding() {
        VerbSchool x = Check.school("class a;verb go of a;except go tense 0 'went';ending all tense 1 'ed';ending all tense 2 'ed';");
        slip(x, 0, 0, 0, "goed", 5, "0/0/-1 3/1/1");
        CHECK.due("the ending taken is missed", x.misses(0, 1), 1);
        slip(x, 0, 0, 0, "go", 6, "0/0/-1 4/-1/-1");
        CHECK.due("the except is missed", x.misses(0, 0), 2);
        CHECK.due("no other is", x.misses(0, 1) + x.misses(0, 2), 1);
    }

    private static void compounds() {
        VerbSchool x = Check.school("class a;verb have of a;verb go of a;ending all tense 0 '';compound all tense 1 by have tense 0 part 0;"
            + "ending all tense 1 'ed';except go tense 1 person 0 'went';lack go tense 2;");
        CHECK.due("right", Check.answer(x, 0, 1, 1, 1, "have go"), 0);
        CHECK.due("no slip", Check.answer(x, 0, 1, 1, 1, "goed"), -5);
        CHECK.due("an except", Check.answer(x, 0, 1, 1, 0, "went"), 0);
        CHECK.due("no slip of the except either", Check.answer(x, 0, 1, 1, 0, "goed"), -5);
        CHECK.due("no explanation", x.change(0), -9);
        CHECK.due("lack", Check.answer(x, 0, 1, 2, 0, ""), -5);
    }

    private static void impossibleWords() {
        VerbSchool x = Check.school("class a;verb a of a;ending all tense 0 'b';stem all tense 1 'a' to '';ending all tense 1 '';"
            + "sound 'a' to 'aaaaaaaa';sound 'c' to 'dddddddd';sound 'dd' to 'eeeeeeee';sound 'e' to '';ending all tense 2 'c';");
        CHECK.due("nothing is no form", Check.answer(x, 0, 0, 0, 0, ""), -5);
        CHECK.due("too long on the way", Check.answer(x, 0, 0, 0, 0, "aaaaaaaa"), 3);
        CHECK.due("by the empty ending", Check.changes(x), "3/0/2");
        CHECK.due("long answers", Check.answer(x, 0, 0, 0, 0, "a".repeat(3999)), -5);
    }

    private static void explanationStays() {
        VerbSchool x = Check.school("class a;verb ab of a;ending all tense 0 'c';sound 'bc' to 'd';");
        slip(x, 0, 0, 0, "abc", 2, "5/1/-1");
        slip(x, 0, 0, 0, "ad", 0, "5/1/-1");
        slip(x, 0, 0, 0, "xx", -5, "5/1/-1");
        slip(x, 0, 4, 0, "xx", -5, "5/1/-1");
        slip(x, 0, 5, 0, "xx", -2, "5/1/-1");
        CHECK.due("another learner", Check.answer(x, 5, 0, 0, 0, "ab"), 4);
        CHECK.due("one explanation for all", Check.changes(x), "4/0/-1");
    }

    private static void counting() {
        VerbSchool x = Check.school("class a;verb ab of a;ending all tense 0 'c';sound 'bc' to 'd';");
        for (int i = 1; i <= 101; i++) {
            Check.answer(x, 2, 0, 0, 0, "abc");
            if (i > 97) {
                CHECK.due("misses after " + i, x.misses(2, 1), Math.min(99, i));
            }
        }
        CHECK.due("other line", x.misses(2, 0), 0);
        CHECK.due("other learner", x.misses(1, 1), 0);
        Check.answer(x, 2, 0, 0, 0, "ab");
        Check.answer(x, 2, 0, 0, 0, "ad");
        CHECK.due("right takes 1 off", x.misses(2, 1), 98);
        CHECK.due("of each line", x.misses(2, 0), 0);
        Check.answer(x, 2, 0, 0, 0, "ad");
        CHECK.due("down to 0", x.misses(2, 0), 0);
        CHECK.due("and on", x.misses(2, 1), 97);
        x = Check.school("class a;verb x of a;except x tense 0 'y';except x tense 0 'y';ending all tense 0 'e';");
        Check.answer(x, 0, 0, 0, 0, "xe");
        CHECK.due("the first except is missed", x.misses(0, 0), 1);
        Check.answer(x, 0, 0, 0, 0, "y");
        CHECK.due("the first form is taken", x.misses(0, 0), 0);
    }

    private static void rowsThatHoldALineTwice() {
        VerbSchool x = Check.school("class a;verb ab of a;ending all tense 0 'c';sound 'bc' to 'd';compound all tense 1 by ab tense 0 part 0;");
        CHECK.due("form", Check.forms(x, 0, 1, 0), "ad ad:2,0,1,0,1");
        Check.answer(x, 0, 0, 0, 0, "abc");
        Check.answer(x, 0, 0, 0, 0, "abc");
        Check.answer(x, 0, 0, 0, 0, "abc");
        Check.answer(x, 0, 0, 1, 0, "ad ad");
        CHECK.due("1 off each line", x.misses(0, 1), 2);
    }

    private static void latestThree() {
        VerbSchool x = Check.school("class a;verb x of a;ending all tense 0 'e';");
        for (int person = 0; person < 6; person++) {
            CHECK.due("the first of the rest", x.drill(0), person < 4 ? person : 0);
            Check.answer(x, 0, 0, 0, person, "xe");
        }
        CHECK.due("3, 4, 5 are the latest", x.drill(0), 0);
        Check.answer(x, 0, 0, 0, 0, "none");
        CHECK.due("wrong ones count", x.drill(0), 1);
        Check.answer(x, 0, 0, 0, 9, "none");
        CHECK.due("out of range ones don't", x.drill(0), 1);
        Check.answer(x, 0, 0, 4, 4, "none");
        Check.answer(x, 0, 0, 4, 4, "none");
        CHECK.due("places without forms count", x.drill(0), 1);
        Check.answer(x, 0, 0, 4, 4, "none");
        CHECK.due("none but one is among them", x.drill(0), 0);
        CHECK.due("others have their own", x.drill(1), 0);
        x = Check.school("class a;verb x of a;except x tense 1 person 2 'y';except x tense 4 person 5 'z';");
        CHECK.due("first", x.drill(0), 12);
        Check.answer(x, 0, 0, 1, 2, "y");
        CHECK.due("then", x.drill(0), 45);
        Check.answer(x, 0, 0, 4, 5, "y");
        CHECK.due("then none", x.drill(0), -1);
    }

    private static void drills() {
        VerbSchool x = Check.school("class a;verb x of a;verb aby of a;verb abz of a;ending all tense 0 'e';ending all tense 3 person 5 'c';"
            + "sound 'ab' to 'u';sound 'zc' to 'd';compound all tense 4 by abz tense 3 part 3;except x tense 1 person 1 'p';except x tense 1 person 1 'q';");
        CHECK.due("at first", x.drill(0), 0);
        Check.answer(x, 0, 1, 0, 0, "abye");
        CHECK.due("a verb with that sound", x.drill(0), 101);
        Check.answer(x, 0, 2, 3, 5, "uzc");
        CHECK.due("two lines together", Check.answer(x, 0, 2, 3, 5, "uzc"), 2);
        CHECK.due("that place is out", x.drill(0), 101);
        Check.answer(x, 0, 0, 0, 0, "xe");
        CHECK.due("still out, but the one ahead is in again", x.drill(0), 100);
        Check.answer(x, 0, 0, 0, 1, "xe");
        Check.answer(x, 0, 0, 0, 2, "xe");
        CHECK.due("sum of 1 and 2", x.drill(0), 235);
        Check.book(x, "class a;verb ab of a;ending all tense 0 'c';sound 'bc' to 'd';compound all tense 1 by ab tense 0 part 0;");
        Check.answer(x, 0, 0, 0, 0, "abc");
        CHECK.due("each line once", x.drill(0), 1);
        x = Check.school("class a;verb x of a;ending all tense 1 'e';except x tense 1 person 1 'p';except x tense 1 'q';");
        Check.answer(x, 0, 0, 1, 0, "xe");
        CHECK.due("the first form's row alone", x.drill(0), 12);
    }
}
