/**
 * The boundary cases that the document names, of Term I and promises 1 to 7 and 20: too small, too
 * large, empty, full, a refused call. Labels hold the document's words that are tested.
 */
public final class BookEdgesTest {
    private static final Check CHECK = new Check("BookEdgesTest");
    private static final int LEAST = Integer.MIN_VALUE;
    private static final int MOST = Integer.MAX_VALUE;
    private static final String SMALL = "class a;verb x of a;";
    private static final String[] ITEMS = {"stem", "ending", "sound", "compound", "except", "lack"};

    public static void main(String[] args) {
        everyByte();
        runsThatAreTooLong();
        lettersThatDontEndSo();
        tokensThatAreMissing();
        endOfText();
        wordsThatAreQuoted();
        leastKindOfOneToken();
        lastOfEachRoom();
        numbersAtTheirBounds();
        objectsAreTheirOwn();
        feed();
        end();
        book();
        fault();
        nothingOfEarlierBooks();
        verb();
        line();
        count();
        CHECK.finish();
    }

    // ---- Term I

    private static int kindOf(String text) {
        VerbSchool x = new VerbSchool();
        int lines = Check.book(x, text);
        CHECK.due("book() is NONE just with a FAULT: " + text, lines == -1 ? 1 : 0, x.fault(0) == 0 ? 0 : 1);
        return x.fault(0);
    }

    /** The fault is due at the sign ^, which is no part of the text. */
    private static void bad(int kind, String marked) {
        VerbSchool x = new VerbSchool();
        CHECK.due(marked, Check.book(x, marked.replace("^", "")), -1);
        CHECK.due("KIND of " + marked, x.fault(0), kind);
        CHECK.due("PLACE of " + marked, x.fault(1), marked.indexOf('^'));
    }

    private static void good(String text, int lines) {
        VerbSchool x = new VerbSchool();
        CHECK.due(text, Check.book(x, text), lines);
        CHECK.due("KIND of " + text, x.fault(0), 0);
        CHECK.due("PLACE of " + text, x.fault(1), -1);
    }

    private static void everyByte() {
        for (int b = 0; b < 256; b++) {
            char sign = (char) b;
            boolean blank = b == 32 || b == 10;
            boolean small = b >= 'a' && b <= 'z';
            CHECK.due("byte " + b + " alone", kindOf("" + sign), blank ? 0 : 1);
            CHECK.due("byte " + b + " in a NAME", kindOf("class a" + sign + ";"), blank || small ? 0 : 1);
            CHECK.due("byte " + b + " between TOKENS", kindOf("class" + sign + "a;"), blank ? 0 : 1);
            CHECK.due("byte " + b + " in LETTERS", kindOf("sound 'a' to '" + sign + "';"), small ? 0 : 1);
            CHECK.due("byte " + b + " as an N", kindOf("ending all tense " + sign + "'';"),
                b >= '0' && b <= '4' ? 0 : b >= '5' && b <= '9' ? 3 : 1);
            CHECK.due("byte " + b + " at an item's end", kindOf("class a" + sign), sign == ';' ? 0 : 1);
        }
    }

    private static void runsThatAreTooLong() {
        good("class abcdefghijkl;verb lkjihgfedcba of abcdefghijkl;", 0);
        bad(1, "class ^abcdefghijklm;");
        bad(1, SMALL + "verb ^abcdefghijklm of a;");
        bad(1, SMALL + "verb y of ^abcdefghijklm;");
        bad(1, "^classclasscl" + "ass a;");
        bad(1, SMALL + "stem ^allallallalla tense 0 'a' to 'b';");
        bad(1, SMALL + "ending all tense ^00 '';");
        bad(1, SMALL + "ending all tense ^04 '';");
        bad(1, SMALL + "ending all tense ^55 '';");
        bad(1, SMALL + "ending all tense 0 person ^" + "0".repeat(40) + " '';");
        good(SMALL + "stem all tense 0 'abcdefgh' to 'abcdefgh';sound 'abcdefgh' to 'abcdefgh' last;"
            + "ending all tense 0 'abcdefgh';except x tense 0 'abcdefgh';", 4);
        bad(1, SMALL + "stem all tense 0 ^'abcdefghi' to 'a';");
        bad(1, SMALL + "stem all tense 0 'a' to ^'abcdefghi';");
        bad(1, SMALL + "ending all tense 0 ^'abcdefghi';");
        bad(1, SMALL + "sound ^'abcdefghi' to 'a';");
        bad(1, SMALL + "sound 'a' to ^'abcdefghi';");
        bad(1, SMALL + "except x tense 0 ^'abcdefghi';");
    }

    private static void lettersThatDontEndSo() {
        bad(1, "sound ^'");
        bad(1, "sound ^'a");
        bad(1, "sound ^'abcdefgh");
        bad(1, "sound ^'a;");
        bad(1, "sound ^'a\n' to 'b';");
        bad(1, "sound ^'a1' to 'b';");
        bad(1, "sound 'a' to ^'b");
        bad(1, "sound 'a' to 'b'^'");
        bad(1, "sound 'a' to 'b'^'';");
    }

    /** With any one TOKEN left out but last, and person with its N, no text goes on at the next one. */
    private static void tokensThatAreMissing() {
        String[] items = {"class b ;", "verb y of a ;", "stem all tense 0 'a' to 'b' ;", "stem in a tense 0 person 1 'a' to 'b' ;",
            "ending all tense 0 '' ;", "ending in a tense 0 person 1 'a' ;", "sound 'a' to '' ;", "sound 'a' to 'b' last ;",
            "compound all tense 0 by x tense 1 part 2 ;", "compound in a tense 0 by x tense 1 part 2 ;",
            "except x tense 0 'a' ;", "except x tense 0 person 1 'a' ;", "lack x tense 0 ;", "lack x tense 0 person 1 ;"};
        for (String item : items) {
            String[] tokens = item.split(" ");
            for (int out = 0; out < tokens.length; out++) {
                StringBuilder marked = new StringBuilder(SMALL);
                for (int i = 0; i < tokens.length; i++) {
                    marked.append(i == out ? "" : " ").append(i == out + 1 ? "^" : "").append(i == out ? "" : tokens[i]);
                }
                if (out > 0) {
                    cutShort(tokens, out);
                }
                if (out == tokens.length - 1) {
                    bad(1, marked + " ^class c;");
                } else if (tokens[out].equals("last")) {
                    good(marked.toString().replace("^", ""), 1);
                } else {
                    bad(1, marked.toString());
                }
            }
        }
    }

    /** The item's first TOKENS, and then a ; though it isn't whole yet. */
    private static void cutShort(String[] tokens, int size) {
        StringBuilder text = new StringBuilder(SMALL);
        for (int i = 0; i < size; i++) {
            text.append(tokens[i]).append(' ');
        }
        boolean whole = tokens[size].equals(";") || tokens[size].equals("last") || tokens[0].equals("lack") && tokens[size].equals("person");
        if (whole) {
            good(text + ";", tokens[0].equals("class") || tokens[0].equals("verb") ? 0 : 1);
        } else {
            bad(1, text + "^;");
        }
    }

    private static void endOfText() {
        String[] texts = {"class a", "class", "verb x of", "verb x", "verb", "stem all tense 0 'a' to", "stem all tense 0 'a'",
            "stem all tense 0", "stem all tense", "stem all", "stem", "ending all tense 0 person", "ending all tense 0 person 0",
            "ending all tense 0 ''", "sound", "sound 'a'", "sound 'a' to", "sound 'a' to 'b'", "sound 'a' to 'b' last",
            "compound all", "compound all tense", "compound all tense 0", "compound all tense 0 by", "except", "lack", "ending in"};
        for (String text : texts) {
            bad(1, text + "^");
            bad(1, text + " \n ^");
        }
        bad(1, SMALL + "compound all tense 0 by x^");
        bad(1, SMALL + "compound all tense 0 by x tense^");
        bad(1, SMALL + "compound all tense 0 by x tense 0^");
        bad(1, SMALL + "compound all tense 0 by x tense 0 part^");
        bad(1, SMALL + "compound all tense 0 by x tense 0 part 0^");
        bad(1, SMALL + "except x^");
        bad(1, SMALL + "except x tense 0 person 0 'a'^");
        bad(1, SMALL + "lack x tense 0^");
        bad(1, SMALL + "compound all ^by x tense 0 part 0;");
        bad(1, SMALL + "compound all tense 0 by x ^part 0;");
        bad(1, SMALL + "except x ^'a';");
        good("", 0);
        good("\n", 0);
        good(" ".repeat(4000), 0);
        bad(1, " ".repeat(3995) + "class^");
    }

    private static void wordsThatAreQuoted() {
        String words = "class verb of stem to ending sound last compound tense by part except lack all in person";
        for (String word : words.split(" ")) {
            bad(1, "class ^" + word + ";");
            bad(1, SMALL + "verb ^" + word + " of a;");
            bad(1, SMALL + "verb y of ^" + word + ";");
            bad(1, SMALL + "stem in ^" + word + " tense 0 'a' to 'b';");
            bad(1, SMALL + "compound all tense 0 by ^" + word + " tense 0 part 0;");
            bad(1, SMALL + "except ^" + word + " tense 0 'a';");
            bad(1, SMALL + "lack ^" + word + " tense 0;");
            good("class " + word + "s;class s" + word + ";verb " + word + "x of " + word + "s;", 0);
            good("class " + word.substring(1) + "q;class q" + word.substring(0, word.length() - 1) + ";", 0);
        }
        good("class clas;class lass;class las;class i;class n;class al;", 0);
        good("class name;class where;class slot;class letters;class text;class item;", 0);
    }

    private static void leastKindOfOneToken() {
        String two = SMALL + "except x tense 0 'a';except x tense 0 'b';";
        bad(4, two + "except x tense 0 ^'';");
        bad(1, two + "except x tense 0 ^'abcdefghi';");
        bad(1, two + "except x tense 0 ^'");
        bad(2, "verb x of ^a 9;");
        bad(2, "class a;class ^a 9;");
        bad(3, SMALL + "ending all tense ^5 person 6 '';");
        bad(5, SMALL + "sound ^'' to 9;");
        bad(5, SMALL + "stem in a tense 0 ^'' 'a';");
        bad(2, SMALL + "except ^y tense 9 '';");
        bad(3, SMALL + "except x tense ^9 '';");
    }

    private static void lastOfEachRoom() {
        for (int c = 1; c <= 6; c++) {
            VerbSchool x = Check.school(Check.classes(c));
            CHECK.due("at most 6 classes", x.count(0), c);
        }
        bad(4, Check.classes(6) + "^class g;");
        bad(4, Check.classes(6) + "^class a;");
        bad(4, Check.classes(6) + "^class class;");
        VerbSchool x = Check.school(Check.classes(6) + Check.verbs(30));
        CHECK.due("at most 30 verbs", x.count(1), 30);
        bad(4, Check.classes(1) + Check.verbs(30) + "^verb z of a;");
        bad(4, Check.classes(1) + Check.verbs(30) + "^verb a of z;");
        bad(4, Check.classes(1) + Check.verbs(30) + "^verb");
        String sixty = SMALL + "lack x tense 0;".repeat(60);
        for (String item : ITEMS) {
            bad(4, sixty + "^" + item + " 'a' to 'b';");
            good(SMALL + "lack x tense 0;".repeat(59) + whole(item), 60);
        }
        bad(1, sixty + "^of;");
        bad(1, sixty + "^last;");
        bad(1, sixty + "^x;");
        good(sixty + Check.classes(6).substring(8) + "verb y of b;", 60);
        good(SMALL + "except x tense 0 'a';".repeat(2) + "except x tense 0 person 0 'a';".repeat(2)
            + "except x tense 0 person 5 'a';".repeat(2) + "except x tense 4 'a';".repeat(2), 8);
        bad(4, SMALL + "except x tense 0 person 5 'a';".repeat(2) + "except x tense 0 'a';except x tense 0 person 5 ^'b';");
        bad(4, SMALL + "except x tense 0 'a';".repeat(2) + "except x tense 0 person 0 'a';except x tense 0 ^'b';");
        good(SMALL + "verb y of a;" + "except x tense 0 'a';".repeat(2) + "except y tense 0 'a';".repeat(2), 4);
    }

    private static String whole(String item) {
        switch (item) {
            case "stem": return "stem all tense 0 'a' to 'b';";
            case "ending": return "ending all tense 0 '';";
            case "sound": return "sound 'a' to 'b';";
            case "compound": return "compound all tense 0 by x tense 0 part 0;";
            case "except": return "except x tense 0 'a';";
            default: return "lack x tense 0;";
        }
    }

    private static void numbersAtTheirBounds() {
        for (int n = 0; n < 10; n++) {
            String tense = "tense " + (n < 5 ? "" : "^") + n;
            String person = "tense 0 person " + (n < 6 ? "" : "^") + n;
            String[] tenses = {"stem all " + tense + " 'a' to 'b';", "ending in a " + tense + " 'a';", "except x " + tense + " 'a';",
                "lack x " + tense + ";", "compound all " + tense + " by x tense 0 part 0;", "compound in a tense 0 by x " + tense + " part 0;",
                "compound all tense 0 by x tense 0 " + tense.replace("tense", "part") + ";"};
            String[] persons = {"stem all " + person + " 'a' to 'b';", "ending all " + person + " '';", "except x " + person + " 'a';",
                "lack x " + person + ";"};
            for (String item : tenses) {
                goodOrOutOfBounds(SMALL + item);
            }
            for (String item : persons) {
                goodOrOutOfBounds(SMALL + item);
            }
        }
    }

    private static void goodOrOutOfBounds(String marked) {
        if (marked.indexOf('^') < 0) {
            good(marked, 1);
        } else {
            bad(3, marked);
        }
    }

    // ---- Promises 1 to 7

    private static void objectsAreTheirOwn() {
        VerbSchool one = Check.school(SMALL + "ending all tense 0 'e';");
        Check.answer(one, 0, 0, 0, 0, "x");
        Check.read(one, "xe");
        Check.book(one, ";");
        Check.type(one, "abc");
        VerbSchool other = new VerbSchool();
        CHECK.due("an empty BOOK: classes", other.count(0), 0);
        CHECK.due("an empty BOOK: verbs", other.count(1), 0);
        CHECK.due("an empty BOOK: LINES", other.count(2), 0);
        CHECK.due("a new tape", other.count(3), 0);
        CHECK.due("a new fault", other.fault(0), 0);
        CHECK.due("a new explanation", other.change(0), -9);
        CHECK.due("a new place", other.place(0, 0), -1);
        Check.book(other, SMALL + "ending all tense 0 'e';");
        CHECK.due("no LEARNER has answered: misses", other.misses(0, 0), 0);
        CHECK.due("no LEARNER has answered: drill", other.drill(0), 0);
        CHECK.due("the first one's misses", one.misses(0, 0), 1);
        CHECK.due("the first one's tape", one.count(3), 3);
    }

    private static void feed() {
        VerbSchool x = new VerbSchool();
        for (int i = 1; i <= 200; i++) {
            CHECK.due("how many it has", x.feed(0x20202020, 0x20202020, 0x20202020, 0x20202020, 0x20202020), 20 * i);
        }
        CHECK.due("FULL at 4000", x.feed(0, 0, 0, 0, 0), -3);
        CHECK.due("FULL at 4000 again", x.feed(-1, -1, -1, -1, -1), -3);
        CHECK.due("a FULL one puts nothing", x.count(3), 4000);
        CHECK.due("end", x.end(3981), 3981);
        CHECK.due("FULL when there would be 4001", x.feed(0, 0, 0, 0, 0), -3);
        CHECK.due("a FULL one takes nothing", x.count(3), 3981);
        CHECK.due("4000 blanks are an empty book", x.book(), 0);
        CHECK.due("it is empty", x.count(3), 0);
        CHECK.due("it is fed again", x.feed(0, 0, 0, 0, 0), 20);
        x = new VerbSchool();
        CHECK.due("the highest of each int first", x.feed(0x20202020, 0x63202020, 0x20202020, 0x20202020, 0x20202020), 20);
        x.book();
        CHECK.due("it is byte 4", x.fault(1), 4);
        x.feed(0x20202020, 0x20202020, 0x20202020, 0x20202020, 0x20202063);
        x.book();
        CHECK.due("the last byte is byte 19", x.fault(1), 19);
        x.feed(0x20202020, 0x20202020, 0x20202020, 0x20202020, 0x202020ff);
        x.book();
        CHECK.due("a byte above 127 is none", x.fault(0) * 100 + x.fault(1), 119);
        x.feed(0x20202020, 0x20202020, 0x20202020, 0x20202020, 0x20202020);
        x.feed(0xe1202020, 0x20202020, 0x20202020, 0x20202020, 0x20202020);
        x.book();
        CHECK.due("behind what is there", x.fault(0) * 100 + x.fault(1), 120);
    }

    private static void end() {
        VerbSchool x = new VerbSchool();
        CHECK.due("0 of 0", x.end(0), 0);
        CHECK.due("1 of 0", x.end(1), -1);
        x.feed(0, 0, 0, 0, 0);
        CHECK.due("20 of 20", x.end(20), 20);
        CHECK.due("not so many", x.end(21), -1);
        CHECK.due("most", x.end(MOST), -1);
        CHECK.due("below 0", x.end(-1), -1);
        CHECK.due("least", x.end(LEAST), -1);
        CHECK.due("a refused one changes nothing", x.count(3), 20);
        CHECK.due("19 of 20", x.end(19), 19);
        CHECK.due("20 of 19", x.end(20), -1);
        CHECK.due("1 of 19", x.end(1), 1);
        CHECK.due("0 of 1", x.end(0), 0);
        CHECK.due("none is left", x.count(3), 0);
        Check.type(x, "class abc");
        CHECK.due("its first n bytes alone", x.end(7), 7);
        Check.type(x, ";class b;");
        CHECK.due("what comes is behind these", x.book(), 0);
        CHECK.due("two classes", x.count(0), 2);
    }

    private static void book() {
        String text = SMALL + "ending all tense 0 'e';sound 'ee' to 'i';";
        VerbSchool x = Check.school(text);
        Check.answer(x, 7, 0, 0, 1, "x");
        Check.read(x, "xe");
        String[] faults = {"class b", "class a;class a;", text + "lack x tense 5;", "class g;" + Check.classes(6), "sound '' to '';"};
        for (int i = 0; i < faults.length; i++) {
            CHECK.due("NONE with a FAULT", Check.book(x, faults[i]), -1);
            CHECK.due("its KIND", x.fault(0), i + 1);
            CHECK.due("the tape is read", x.count(3), 0);
            CHECK.due("all stays: classes", x.count(0), 1);
            CHECK.due("all stays: verbs", x.count(1), 1);
            CHECK.due("all stays: LINES", x.count(2), 2);
            CHECK.due("all stays: letters", x.verb(0, 10), 'x');
            CHECK.due("all stays: a LINE", x.line(1, 4), 2);
            CHECK.due("all stays: FORMS", Check.forms(x, 0, 0, 0), "xe:0");
            CHECK.due("all stays: misses", x.misses(7, 0), 1);
            CHECK.due("all stays: the latest", x.drill(7), 0);
            CHECK.due("all stays: places", x.place(5, 2), 5);
            CHECK.due("all stays: changes", Check.changes(x), "4/0/-1");
            CHECK.due("all stays: users", x.users(0), 6);
        }
        CHECK.due("the same BOOK again", Check.book(x, text), 2);
        CHECK.due("misses are gone", x.misses(7, 0), 0);
        CHECK.due("places are gone", x.place(0, 0), -1);
        CHECK.due("changes are gone", x.change(0), -9);
        CHECK.due("changes are gone: LINE", x.change(20), -9);
        Check.answer(x, 7, 0, 0, 0, "xe");
        CHECK.due("the latest", x.drill(7), 1);
        CHECK.due("an empty tape is a BOOK", x.book(), 0);
        CHECK.due("nothing is left", x.count(0) + x.count(1) + x.count(2), 0);
        CHECK.due("no verb", x.forms(0, 0, 0), -2);
        CHECK.due("no drill", x.drill(7), -1);
        Check.book(x, text);
        CHECK.due("the latest are gone", x.drill(7), 0);
    }

    private static void fault() {
        VerbSchool x = new VerbSchool();
        CHECK.due("ahead of any: KIND", x.fault(0), 0);
        CHECK.due("ahead of any: PLACE", x.fault(1), -1);
        Check.book(x, "class a;class a;");
        for (int turn = 0; turn < 2; turn++) {
            CHECK.due("KIND", x.fault(0), 2);
            CHECK.due("PLACE", x.fault(1), 14);
            for (int what : new int[] {-1, 2, 10, LEAST, MOST}) {
                CHECK.due("another what " + what, x.fault(what), -1);
            }
            Check.read(x, "a");
            Check.answer(x, 0, 0, 0, 0, "a");
        }
        Check.book(x, ";");
        CHECK.due("of the latest book(): KIND", x.fault(0), 1);
        CHECK.due("of the latest book(): PLACE", x.fault(1), 0);
        x.book();
        CHECK.due("0 without", x.fault(0), 0);
        CHECK.due("NONE without", x.fault(1), -1);
    }

    /** Of each two items, the second one's LINE is the same as if the first had never been told. */
    private static void nothingOfEarlierBooks() {
        String[] items = {"stem in a tense 4 person 5 'abc' to 'de';", "ending in a tense 3 person 4 'abcd';", "sound 'abcde' to 'f' last;",
            "sound 'a' to '';", "compound in a tense 2 by y tense 3 part 4;", "except y tense 1 person 2 'abcdef';", "lack y tense 4 person 1;",
            "lack x tense 0;", "ending all tense 0 '';"};
        for (String earlier : items) {
            for (String item : items) {
                String verbs = SMALL + "verb y of a;";
                VerbSchool fresh = Check.school(verbs + item);
                VerbSchool x = Check.school(verbs + earlier);
                Check.book(x, verbs + earlier + earlier);
                Check.book(x, verbs + earlier + "lack");
                CHECK.due("one LINE", Check.book(x, verbs + item), 1);
                for (int what = 0; what < 7; what++) {
                    CHECK.due(item + " behind " + earlier + " what " + what, x.line(0, what), fresh.line(0, what));
                }
                CHECK.due("no other LINE", x.line(1, 0), -9);
                CHECK.due("FORMS", Check.forms(x, 0, 0, 0), Check.forms(fresh, 0, 0, 0));
            }
        }
        for (String first : new String[] {"", SMALL, "class", "class a;;", "class a 'b'"}) {
            VerbSchool x = new VerbSchool();
            Check.book(x, first);
            CHECK.due("a byte that is none at first, behind " + first, Check.book(x, "\t"), -1);
            CHECK.due("its FAULT behind " + first, x.fault(0) * 10 + x.fault(1), 10);
        }
    }

    private static void verb() {
        VerbSchool x = Check.school(Check.classes(6) + "verb m of f;verb abcdefghijkl of a;");
        CHECK.due("the last class", x.verb(0, 0), 5);
        CHECK.due("one letter", x.verb(0, 1), 1);
        CHECK.due("letter 0", x.verb(0, 10), 'm');
        CHECK.due("twelve letters", x.verb(1, 1), 12);
        CHECK.due("letter 11", x.verb(1, 21), 'l');
        CHECK.due("letter 12", x.verb(1, 22), -1);
        for (int what : new int[] {-1, 2, 9, 11, LEAST, MOST}) {
            CHECK.due("none such " + what, x.verb(0, what), -1);
        }
        for (int v : new int[] {-1, 2, 30, LEAST, MOST}) {
            CHECK.due("no verb " + v, x.verb(v, 0), -1);
            CHECK.due("no letter of " + v, x.verb(v, 10), -1);
        }
        x = Check.school("class a;" + Check.verbs(30));
        CHECK.due("the 30th verb", x.verb(29, 1), 4);
        CHECK.due("the 31st verb", x.verb(30, 1), -1);
        CHECK.due("verbs told anew", Check.book(x, SMALL), 0);
        CHECK.due("the second is gone", x.verb(1, 0), -1);
    }

    private static void line() {
        VerbSchool x = Check.school(SMALL + "lack x tense 0;".repeat(59) + "stem in a tense 4 person 5 'abcdefgh' to 'hgfedcba';");
        int[] due = {0, 0, 4, 5, 8, 8, 0};
        for (int what = 0; what < due.length; what++) {
            CHECK.due("the 60th LINE, what " + what, x.line(59, what), due[what]);
        }
        for (int what : new int[] {-1, 7, LEAST, MOST}) {
            CHECK.due("none such " + what, x.line(59, what), -9);
        }
        for (int l : new int[] {-1, 60, LEAST, MOST}) {
            CHECK.due("no LINE " + l, x.line(l, 0), -9);
        }
        CHECK.due("a shorter BOOK", Check.book(x, SMALL + "sound 'a' to '';"), 1);
        CHECK.due("LINE 1 is gone", x.line(1, 0), -9);
        int[] sound = {2, -1, -1, -1, 1, 0, 0};
        for (int what = 0; what < sound.length; what++) {
            CHECK.due("sound, what " + what, x.line(0, what), sound[what]);
        }
    }

    private static void count() {
        VerbSchool x = Check.school(Check.classes(6) + Check.verbs(30) + "ending all tense 0 '';");
        Check.type(x, "abc");
        int[] due = {6, 30, 1, 3};
        for (int what = 0; what < due.length; what++) {
            CHECK.due("count " + what, x.count(what), due[what]);
        }
        for (int what : new int[] {-1, 4, LEAST, MOST}) {
            CHECK.due("NONE for others " + what, x.count(what), -1);
        }
        CHECK.due("the tape stays", x.count(3), 3);
        x = Check.school(SMALL + "lack x tense 0;".repeat(60));
        CHECK.due("60 LINES", x.count(2), 60);
    }
}
