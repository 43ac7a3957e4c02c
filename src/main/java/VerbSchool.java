/**
 * A school of verbs: a language's verbs told in a text of rules, every form made with its row of
 * rules and read back, a learner's slip explained at the least cost, and drills that meet the
 * learner's own slips. The words in capitals are the terms of DOC.md.
 *
 * No call makes an object: all rows are made in the constructor and used again.
 */
public final class VerbSchool {
    public static final int NONE = -1;
    public static final int RANGE = -2;
    public static final int FULL = -3;

    private static final int NOT_EXPLAINED = -5;
    private static final int NO_SUCH = -9;

    private static final int TAPE_ROOM = 4000;
    private static final int NAME_ROOM = 12;
    private static final int LETTERS_ROOM = 8;
    private static final int WORD_ROOM = 30;
    private static final int BYTES_FED = 20;

    private static final int CLASSES = 6;
    private static final int VERBS = 30;
    private static final int LINES = 60;
    private static final int TENSES = 5;
    private static final int PERSONS = 6;
    private static final int LEARNERS = 8;
    private static final int PLACES_OF_VERB = TENSES * PERSONS;
    private static final int PLACES = VERBS * PLACES_OF_VERB;
    private static final int PLACES_TOLD = 60;
    private static final int LATEST = 3;
    private static final int MOST_MISSES = 99;
    private static final int MOST_CHANGES = 2;

    /** A compound's ROW: itself, and twice (helper, part) all LINES but itself at most. */
    private static final int ROW_ROOM = 2 * LINES;
    private static final int EXCEPTS_OF_SLOT = 2;
    private static final int PLAIN_FORMS = 2;
    private static final int MOST_FORMS = 4;

    private static final int STEM = 0;
    private static final int ENDING = 1;
    private static final int SOUND = 2;
    private static final int COMPOUND = 3;
    private static final int EXCEPT = 4;
    private static final int LACK = 5;

    private static final char BLANK = 32;

    private final Text tape;
    private final Parser parser;
    private final Maker maker;
    private final Survey survey;
    private final Explainer explainer;
    private final Learner[] learners;
    private final int[] found;
    private int foundSize;
    private Book told;
    /** A text is read into this one first, so that one with a FAULT leaves the BOOK as it is. */
    private Book spare;

    public VerbSchool() {
        tape = new Text(TAPE_ROOM);
        parser = new Parser();
        maker = new Maker();
        survey = new Survey();
        explainer = new Explainer();
        learners = new Learner[LEARNERS];
        for (int l = 0; l < LEARNERS; l++) {
            learners[l] = new Learner();
        }
        found = new int[PLACES_TOLD];
        foundSize = 0;
        told = new Book();
        spare = new Book();
    }

    public int feed(int a, int b, int c, int d, int e) {
        if (tape.size + BYTES_FED > TAPE_ROOM) {
            return FULL;
        }
        tape.addInt(a);
        tape.addInt(b);
        tape.addInt(c);
        tape.addInt(d);
        tape.addInt(e);
        return tape.size;
    }

    public int end(int n) {
        if (n < 0 || n > tape.size) {
            return NONE;
        }
        tape.size = n;
        return n;
    }

    // ---- the book

    public int book() {
        boolean whole = parser.parse(tape, spare);
        tape.clear();
        if (!whole) {
            return NONE;
        }
        Book old = told;
        told = spare;
        spare = old;
        forgetAll();
        return told.lineSize;
    }

    public int fault(int what) {
        switch (what) {
            case 0: return parser.faultKind;
            case 1: return parser.faultPlace;
            default: return NONE;
        }
    }

    public int verb(int v, int what) {
        if (v < 0 || v >= told.verbSize) {
            return NONE;
        }
        switch (what) {
            case 0: return told.verbClasses[v];
            case 1: return told.verbNames[v].size;
            default: return what < 10 ? NONE : told.verbNames[v].at(what - 10);
        }
    }

    public int line(int l, int what) {
        if (l < 0 || l >= told.lineSize) {
            return NO_SUCH;
        }
        Line it = told.lines[l];
        switch (what) {
            case 0: return it.kind;
            case 1: return it.owner;
            case 2: return it.tense;
            case 3: return it.person;
            case 4: return it.first.size;
            case 5: return it.second.size;
            case 6: return it.kind == COMPOUND ? it.helper : it.last ? 1 : 0;
            default: return NO_SUCH;
        }
    }

    // ---- forms

    public int forms(int v, int tense, int person) {
        if (!isPlace(v, tense, person)) {
            return RANGE;
        }
        maker.makeAt(told, v, tense, person);
        return maker.made.size;
    }

    public int form(int v, int tense, int person, int k, int i) {
        Form it = formAt(v, tense, person, k);
        return it == null ? NONE : it.word.at(i);
    }

    public int row(int v, int tense, int person, int k, int i) {
        Form it = formAt(v, tense, person, k);
        return it == null ? NONE : it.lineAt(i);
    }

    public int rivals(int v, int tense, int person) {
        if (!isPlace(v, tense, person)) {
            return RANGE;
        }
        int n = 0;
        for (int l = 0; l < told.lineSize; l++) {
            if (told.lines[l].kind == ENDING && told.fits(l, v, tense, person)) {
                n++;
            }
        }
        return n;
    }

    public int read() {
        survey.look(told, maker);
        long mark = tape.mark();
        int all = 0;
        foundSize = 0;
        for (int at = 0; at < told.placeSize(); at++) {
            if (survey.mayHave(at, mark) && tapeIsFormAt(at)) {
                all++;
                notePlace(at);
            }
        }
        tape.clear();
        return all;
    }

    public int place(int i, int what) {
        if (i < 0 || i >= foundSize) {
            return NONE;
        }
        switch (what) {
            case 0: return verbOf(found[i]);
            case 1: return tenseOf(found[i]);
            case 2: return personOf(found[i]);
            default: return NONE;
        }
    }

    public int unused() {
        survey.look(told, maker);
        return told.lineSize - Long.bitCount(survey.linesUsed(told.placeSize()));
    }

    public int users(int l) {
        if (l < 0 || l >= told.lineSize) {
            return RANGE;
        }
        survey.look(told, maker);
        return survey.placesUsing(l, told.placeSize());
    }

    // ---- learners

    public int answer(int l, int v, int tense, int person) {
        int judged = RANGE;
        if (isLearner(l) && isPlace(v, tense, person)) {
            learners[l].notePlace(placeOf(v, tense, person));
            maker.makeAt(told, v, tense, person);
            Form right = maker.made.get(maker.made.find(tape));
            if (right != null) {
                learners[l].ease(right.lineBits());
                judged = 0;
            } else if (isSlipAt(v, tense, person)
                && explainer.explain(told, tape, maker, v, tense, person)) {
                learners[l].miss(explainer.missedBits());
                judged = explainer.best.cost();
            } else {
                judged = NOT_EXPLAINED;
            }
        }
        tape.clear();
        return judged;
    }

    public int change(int what) {
        return explainer.detail(what);
    }

    public int misses(int l, int line) {
        if (!isLearner(l) || line < 0 || line >= told.lineSize) {
            return RANGE;
        }
        return learners[l].missed[line];
    }

    public int drill(int l) {
        if (!isLearner(l)) {
            return RANGE;
        }
        survey.look(told, maker);
        Learner who = learners[l];
        int best = NONE;
        int most = NONE;
        for (int at = 0; at < told.placeSize(); at++) {
            if (survey.hasForm(at) && !who.hasJustAnswered(at)) {
                int sum = who.sumOf(survey.firstRow[at]);
                if (sum > most) {
                    most = sum;
                    best = at;
                }
            }
        }
        return best == NONE ? NONE : 100 * verbOf(best) + 10 * tenseOf(best) + personOf(best);
    }

    public int count(int what) {
        switch (what) {
            case 0: return told.classSize;
            case 1: return told.verbSize;
            case 2: return told.lineSize;
            case 3: return tape.size;
            default: return NONE;
        }
    }

    // ---- what the calls share

    private static int placeOf(int v, int tense, int person) {
        return v * PLACES_OF_VERB + tense * PERSONS + person;
    }

    private static int verbOf(int at) {
        return at / PLACES_OF_VERB;
    }

    private static int tenseOf(int at) {
        return at % PLACES_OF_VERB / PERSONS;
    }

    private static int personOf(int at) {
        return at % PERSONS;
    }

    private static boolean isLearner(int l) {
        return l >= 0 && l < LEARNERS;
    }

    private boolean isPlace(int v, int tense, int person) {
        return v >= 0 && v < told.verbSize
            && tense >= 0 && tense < TENSES
            && person >= 0 && person < PERSONS;
    }

    private void forgetAll() {
        for (int l = 0; l < LEARNERS; l++) {
            learners[l].forget();
        }
        foundSize = 0;
        explainer.forget();
        survey.known = false;
    }

    private Form formAt(int v, int tense, int person, int k) {
        if (!isPlace(v, tense, person)) {
            return null;
        }
        maker.makeAt(told, v, tense, person);
        return maker.made.get(k);
    }

    private boolean tapeIsFormAt(int at) {
        maker.makeAt(told, verbOf(at), tenseOf(at), personOf(at));
        return maker.made.find(tape) != NONE;
    }

    private void notePlace(int at) {
        if (foundSize < PLACES_TOLD) {
            found[foundSize] = at;
            foundSize++;
        }
    }

    /** Of an answer that is none of the FORMS that the maker has just made there. */
    private boolean isSlipAt(int v, int tense, int person) {
        return maker.made.size > 0 && told.nextFitting(COMPOUND, 0, v, tense, person) == NONE;
    }

    /** Bytes, as many as there is room for. */
    private static final class Text {
        final byte[] bytes;
        int size;

        Text(int room) {
            bytes = new byte[Math.max(0, room)];
            size = 0;
        }

        void clear() {
            size = 0;
        }

        int at(int i) {
            return i >= 0 && i < size ? bytes[i] & 255 : NONE;
        }

        boolean add(int b) {
            if (size >= bytes.length) {
                return false;
            }
            bytes[size] = (byte) b;
            size++;
            return true;
        }

        void addInt(int fourBytes) {
            for (int shift = 24; shift >= 0; shift -= 8) {
                add(fourBytes >> shift);
            }
        }

        /** False, with nothing added, when there is no room for it. */
        boolean addPart(Text from, int start, int stop) {
            int n = stop - start;
            if (start < 0 || n < 0 || stop > from.size || n > bytes.length - size) {
                return false;
            }
            System.arraycopy(from.bytes, start, bytes, size, n);
            size += n;
            return true;
        }

        boolean addAll(Text from) {
            return addPart(from, 0, from.size);
        }

        void set(Text from) {
            size = 0;
            addPart(from, 0, from.size);
        }

        boolean same(Text other) {
            return size == other.size && holds(other, 0);
        }

        boolean holds(Text part, int start) {
            if (start < 0 || part.size > size - start) {
                return false;
            }
            for (int i = 0; i < part.size; i++) {
                if (bytes[start + i] != part.bytes[i]) {
                    return false;
                }
            }
            return true;
        }

        int firstPlaceOf(Text part, int start) {
            for (int i = start; i <= size - part.size; i++) {
                if (holds(part, i)) {
                    return i;
                }
            }
            return NONE;
        }

        int lastPlaceOf(Text part) {
            for (int i = size - part.size; i >= 0; i--) {
                if (holds(part, i)) {
                    return i;
                }
            }
            return NONE;
        }

        /** One bit of 64, the same for the same bytes. */
        long mark() {
            int h = size;
            for (int i = 0; i < size; i++) {
                h = h * 31 + bytes[i];
            }
            return 1L << ((h ^ h >>> 6 ^ h >>> 12) & 63);
        }
    }

    private static final class Line {
        int kind;
        /** A class; of except, lack a verb; NONE of all and of sound. */
        int owner;
        int tense;
        int person;
        int helper;
        int helperTense;
        int part;
        boolean last;
        final Text first;
        final Text second;

        Line() {
            first = new Text(LETTERS_ROOM);
            second = new Text(LETTERS_ROOM);
        }

        void begin(int newKind) {
            kind = newKind;
            owner = NONE;
            tense = NONE;
            person = NONE;
            helper = NONE;
            helperTense = NONE;
            part = NONE;
            last = false;
            first.clear();
            second.clear();
        }

        boolean isOfVerb() {
            return kind == EXCEPT || kind == LACK;
        }
    }

    private static final class Book {
        final Text[] classNames;
        int classSize;
        final Text[] verbNames;
        final int[] verbClasses;
        int verbSize;
        final Line[] lines;
        int lineSize;

        Book() {
            classNames = new Text[CLASSES];
            for (int c = 0; c < CLASSES; c++) {
                classNames[c] = new Text(NAME_ROOM);
            }
            verbNames = new Text[VERBS];
            for (int v = 0; v < VERBS; v++) {
                verbNames[v] = new Text(NAME_ROOM);
            }
            verbClasses = new int[VERBS];
            lines = new Line[LINES];
            for (int l = 0; l < LINES; l++) {
                lines[l] = new Line();
            }
        }

        void clear() {
            classSize = 0;
            verbSize = 0;
            lineSize = 0;
        }

        int placeSize() {
            return verbSize * PLACES_OF_VERB;
        }

        static int indexOf(Text name, Text[] names, int size) {
            for (int i = 0; i < size; i++) {
                if (names[i].same(name)) {
                    return i;
                }
            }
            return NONE;
        }

        /** Of a verb that is there. A sound has no tense, and so fits no place. */
        boolean fits(int l, int v, int tense, int person) {
            Line it = lines[l];
            if (it.tense != tense || it.person != NONE && it.person != person) {
                return false;
            }
            return it.isOfVerb() ? it.owner == v : it.owner == NONE || it.owner == verbClasses[v];
        }

        int nextFitting(int kind, int from, int v, int tense, int person) {
            for (int l = from; l < lineSize; l++) {
                if (lines[l].kind == kind && fits(l, v, tense, person)) {
                    return l;
                }
            }
            return NONE;
        }

        /** How many LINES ahead of this except are excepts told alike. */
        int exceptsLike(Line it) {
            int n = 0;
            for (int l = 0; l < lineSize; l++) {
                Line other = lines[l];
                if (other.kind == EXCEPT && other.owner == it.owner
                    && other.tense == it.tense && other.person == it.person) {
                    n++;
                }
            }
            return n;
        }

        /** The STEM with this stem LINE's change, or as it is: whether its LETTERS stood there. */
        boolean putStem(int v, int stem, Text word) {
            Text name = verbNames[v];
            int at = stem == NONE ? NONE : name.lastPlaceOf(lines[stem].first);
            if (at == NONE) {
                word.set(name);
                return false;
            }
            word.clear();
            word.addPart(name, 0, at);
            word.addAll(lines[stem].second);
            word.addPart(name, at + lines[stem].first.size, name.size);
            return true;
        }
    }

    /** Reads a text TOKEN by TOKEN into a book, up to its first FAULT. */
    private static final class Parser {
        private static final int SYNTAX = 1;
        private static final int WRONG_NAME = 2;
        private static final int OUT_OF_BOUNDS = 3;
        private static final int NO_ROOM = 4;
        private static final int EMPTY = 5;

        /** By the numbers of their TOKENS; those that begin LINES stand first, by KIND. */
        private static final String WORDS =
            "stem ending sound compound except lack class verb of to last tense by part all in person ";
        private static final int CLASS = 6;
        private static final int VERB = 7;
        private static final int OF = 8;
        private static final int TO = 9;
        private static final int LAST = 10;
        private static final int TENSE = 11;
        private static final int BY = 12;
        private static final int PART = 13;
        private static final int ALL = 14;
        private static final int IN = 15;
        private static final int PERSON = 16;
        private static final int NAME = 17;
        private static final int NUMBER = 18;
        private static final int LETTERS = 19;
        private static final int SEMICOLON = 20;
        private static final int END = 21;
        private static final int BAD = 22;

        int faultKind;
        int faultPlace;
        private Text text;
        private Book out;
        /** The first byte behind the TOKEN. */
        private int next;
        private int token;
        private int start;
        private final Text name;

        Parser() {
            faultKind = 0;
            faultPlace = NONE;
            name = new Text(NAME_ROOM);
        }

        boolean parse(Text from, Book into) {
            text = from;
            out = into;
            out.clear();
            faultKind = 0;
            faultPlace = NONE;
            next = 0;
            step();
            boolean whole = true;
            // An item takes a byte at least, so there are fewer items than bytes.
            for (int i = 0; i <= TAPE_ROOM && whole && token != END; i++) {
                switch (token) {
                    case CLASS: whole = takeClass(); break;
                    case VERB: whole = takeVerb(); break;
                    default: whole = takeLine(); break;
                }
                whole = whole && take(SEMICOLON);
            }
            return whole;
        }

        private boolean takeClass() {
            if (out.classSize >= CLASSES) {
                return refuse(NO_ROOM);
            }
            step();
            if (!isNewName(out.classNames, out.classSize)) {
                return false;
            }
            out.classNames[out.classSize].set(name);
            out.classSize++;
            step();
            return true;
        }

        private boolean takeVerb() {
            int v = out.verbSize;
            if (v >= VERBS) {
                return refuse(NO_ROOM);
            }
            step();
            if (!isNewName(out.verbNames, v)) {
                return false;
            }
            out.verbNames[v].set(name);
            step();
            out.verbClasses[v] = take(OF) ? takeName(out.classNames, out.classSize) : NONE;
            out.verbSize++;
            return out.verbClasses[v] != NONE;
        }

        private boolean takeLine() {
            if (token < STEM || token > LACK) {
                return refuse(SYNTAX);
            }
            if (out.lineSize >= LINES) {
                return refuse(NO_ROOM);
            }
            Line it = out.lines[out.lineSize];
            it.begin(token);
            step();
            boolean whole;
            switch (it.kind) {
                case STEM: whole = takeWhere(it) && takeSlot(it) && takeChange(it); break;
                case ENDING: whole = takeWhere(it) && takeSlot(it) && takeLetters(it.first); break;
                case SOUND: whole = takeChange(it) && takeLast(it); break;
                case COMPOUND: whole = takeWhere(it) && takeCompound(it); break;
                case EXCEPT: whole = takeOwner(it) && takeSlot(it) && takeExcepted(it); break;
                default: whole = takeOwner(it) && takeSlot(it); break;
            }
            out.lineSize++;
            return whole;
        }

        private boolean takeWhere(Line it) {
            if (token == ALL) {
                step();
                return true;
            }
            it.owner = take(IN) ? takeName(out.classNames, out.classSize) : NONE;
            return it.owner != NONE;
        }

        private boolean takeOwner(Line it) {
            it.owner = takeName(out.verbNames, out.verbSize);
            return it.owner != NONE;
        }

        private boolean takeSlot(Line it) {
            it.tense = take(TENSE) ? takeNumber(TENSES) : NONE;
            if (it.tense == NONE || token != PERSON) {
                return it.tense != NONE;
            }
            step();
            it.person = takeNumber(PERSONS);
            return it.person != NONE;
        }

        private boolean takeChange(Line it) {
            return isNotEmpty() && takeLetters(it.first) && take(TO) && takeLetters(it.second);
        }

        private boolean takeLast(Line it) {
            it.last = token == LAST;
            if (it.last) {
                step();
            }
            return true;
        }

        private boolean takeCompound(Line it) {
            it.tense = take(TENSE) ? takeNumber(TENSES) : NONE;
            boolean isBy = it.tense != NONE && take(BY);
            it.helper = isBy ? takeName(out.verbNames, out.verbSize) : NONE;
            it.helperTense = it.helper != NONE && take(TENSE) ? takeNumber(TENSES) : NONE;
            it.part = it.helperTense != NONE && take(PART) ? takeNumber(TENSES) : NONE;
            return it.part != NONE;
        }

        private boolean takeExcepted(Line it) {
            if (token == LETTERS && out.exceptsLike(it) >= EXCEPTS_OF_SLOT) {
                return refuse(NO_ROOM);
            }
            return isNotEmpty() && takeLetters(it.first);
        }

        private boolean isNotEmpty() {
            return token != LETTERS || next - start > 2 || refuse(EMPTY);
        }

        private boolean takeLetters(Text into) {
            if (token != LETTERS) {
                return refuse(SYNTAX);
            }
            into.clear();
            into.addPart(text, start + 1, next - 1);
            step();
            return true;
        }

        /** NONE, with a FAULT, when the TOKEN is no such number. */
        private int takeNumber(int bound) {
            int value = text.at(start) - '0';
            if (token != NUMBER || value >= bound) {
                refuse(token != NUMBER ? SYNTAX : OUT_OF_BOUNDS);
                return NONE;
            }
            step();
            return value;
        }

        /** NONE, with a FAULT, when the TOKEN is none of the names. */
        private int takeName(Text[] names, int size) {
            if (!isName()) {
                return NONE;
            }
            int index = Book.indexOf(name, names, size);
            if (index == NONE) {
                refuse(WRONG_NAME);
            } else {
                step();
            }
            return index;
        }

        private boolean isNewName(Text[] names, int size) {
            if (!isName()) {
                return false;
            }
            return Book.indexOf(name, names, size) == NONE || refuse(WRONG_NAME);
        }

        private boolean isName() {
            if (token != NAME) {
                return refuse(SYNTAX);
            }
            name.clear();
            return name.addPart(text, start, next);
        }

        private boolean take(int due) {
            if (token != due) {
                return refuse(SYNTAX);
            }
            step();
            return true;
        }

        /** At the TOKEN; always false. */
        private boolean refuse(int kind) {
            faultKind = kind;
            faultPlace = start;
            return false;
        }

        private void step() {
            start = next;
            while (start < text.size && (text.at(start) == BLANK || text.at(start) == '\n')) {
                start++;
            }
            next = start + 1;
            int b = text.at(start);
            if (b == NONE) {
                token = END;
            } else if (b == ';') {
                token = SEMICOLON;
            } else if (b == '\'') {
                next = runEnd(start + 1, 'a', 'z') + 1;
                boolean closed = text.at(next - 1) == '\'';
                token = closed && next - start - 2 <= LETTERS_ROOM ? LETTERS : BAD;
            } else if (b >= 'a' && b <= 'z') {
                next = runEnd(start, 'a', 'z');
                token = next - start <= NAME_ROOM ? wordNumber() : BAD;
            } else if (b >= '0' && b <= '9') {
                next = runEnd(start, '0', '9');
                token = next - start == 1 ? NUMBER : BAD;
            } else {
                token = BAD;
            }
        }

        private int runEnd(int from, char low, char high) {
            int i = from;
            while (i < text.size && text.at(i) >= low && text.at(i) <= high) {
                i++;
            }
            return i;
        }

        /** NAME, if it is none of the WORDS. */
        private int wordNumber() {
            int number = 0;
            int i = start;
            boolean same = true;
            for (int k = 0; k < WORDS.length(); k++) {
                if (WORDS.charAt(k) != BLANK) {
                    same = same && i < next && text.at(i) == WORDS.charAt(k);
                    i++;
                } else if (same && i == next) {
                    return number;
                } else {
                    number++;
                    i = start;
                    same = true;
                }
            }
            return NAME;
        }
    }

    /** A FORM with its ROW. */
    private static final class Form {
        final Text word;
        private final int[] row;
        private int rowSize;

        Form() {
            word = new Text(WORD_ROOM);
            row = new int[ROW_ROOM];
        }

        void clear() {
            word.clear();
            rowSize = 0;
        }

        int lineAt(int i) {
            return i >= 0 && i < rowSize ? row[i] : NONE;
        }

        void addLine(int l) {
            if (rowSize < row.length) {
                row[rowSize] = l;
                rowSize++;
            }
        }

        void addBits(long lineBits) {
            for (int l = 0; l < LINES; l++) {
                if ((lineBits >>> l & 1) != 0) {
                    addLine(l);
                }
            }
        }

        void addRow(Form other) {
            for (int i = 0; i < other.rowSize; i++) {
                addLine(other.row[i]);
            }
        }

        /** The LINES of the ROW, each once: bit l is LINE l. */
        long lineBits() {
            long bits = 0;
            for (int i = 0; i < rowSize; i++) {
                bits |= 1L << row[i];
            }
            return bits;
        }
    }

    private static final class FormList {
        private final Form[] forms;
        int size;

        FormList(int room) {
            forms = new Form[Math.max(0, room)];
            for (int k = 0; k < forms.length; k++) {
                forms[k] = new Form();
            }
        }

        void clear() {
            size = 0;
        }

        Form get(int k) {
            return k >= 0 && k < size ? forms[k] : null;
        }

        /** An empty FORM that is in the list once keep() is called; null when there is no room. */
        Form open() {
            if (size >= forms.length) {
                return null;
            }
            forms[size].clear();
            return forms[size];
        }

        void keep() {
            if (size < forms.length) {
                size++;
            }
        }

        int find(Text word) {
            for (int k = 0; k < size; k++) {
                if (forms[k].word.same(word)) {
                    return k;
                }
            }
            return NONE;
        }
    }

    /** Makes the FORMS of a verb at a tense and person. */
    private static final class Maker {
        final FormList made;
        /** Whether the latest word sounded is a FORM: never too long, and not empty. */
        boolean isWhole;
        private final FormList helpers;
        private final FormList parts;
        private final Text changed;

        Maker() {
            made = new FormList(MOST_FORMS);
            helpers = new FormList(PLAIN_FORMS);
            parts = new FormList(PLAIN_FORMS);
            changed = new Text(WORD_ROOM);
        }

        void makeAt(Book in, int v, int tense, int person) {
            int compound = in.nextFitting(COMPOUND, 0, v, tense, person);
            if (compound == NONE
                || in.nextFitting(LACK, 0, v, tense, person) != NONE
                || in.nextFitting(EXCEPT, 0, v, tense, person) != NONE) {
                makePlain(in, made, v, tense, person);
                return;
            }
            Line it = in.lines[compound];
            makePlain(in, helpers, it.helper, it.helperTense, person);
            makePlain(in, parts, v, it.part, 0);
            made.clear();
            for (int h = 0; h < helpers.size; h++) {
                for (int p = 0; p < parts.size; p++) {
                    join(compound, helpers.get(h), parts.get(p));
                }
            }
        }

        private void join(int compound, Form helper, Form part) {
            Form it = made.open();
            if (it == null || helper == null || part == null) {
                return;
            }
            it.addLine(compound);
            it.addRow(helper);
            it.addRow(part);
            if (it.word.addAll(helper.word) && it.word.add(BLANK) && it.word.addAll(part.word)) {
                made.keep();
            }
        }

        /** As if there were no compounds. */
        private void makePlain(Book in, FormList out, int v, int tense, int person) {
            out.clear();
            if (in.nextFitting(LACK, 0, v, tense, person) != NONE) {
                return;
            }
            addExcepts(in, out, v, tense, person);
            int ending = in.nextFitting(ENDING, 0, v, tense, person);
            Form it = out.open();
            if (out.size > 0 || ending == NONE || it == null) {
                return;
            }
            int stem = in.nextFitting(STEM, 0, v, tense, person);
            if (in.putStem(v, stem, it.word)) {
                it.addLine(stem);
            }
            it.word.addAll(in.lines[ending].first);
            it.addLine(ending);
            it.addBits(soundAll(in, it.word, NONE, NONE));
            if (isWhole) {
                out.keep();
            }
        }

        private void addExcepts(Book in, FormList out, int v, int tense, int person) {
            int except = in.nextFitting(EXCEPT, 0, v, tense, person);
            for (int k = 0; k < PLAIN_FORMS && except != NONE; k++) {
                Form it = out.open();
                if (it != null) {
                    it.word.addAll(in.lines[except].first);
                    it.addLine(except);
                    out.keep();
                }
                except = in.nextFitting(EXCEPT, except + 1, v, tense, person);
            }
        }

        /**
         * All sounds but two (NONE leaves none out): a bit for each that changed something, up to
         * the one, if any, that made the word too long.
         */
        long soundAll(Book in, Text word, int leftOut, int leftOutToo) {
            long bits = 0;
            isWhole = true;
            for (int l = 0; l < in.lineSize && isWhole; l++) {
                boolean isHeard = in.lines[l].kind == SOUND && l != leftOut && l != leftOutToo;
                if (isHeard && sound(in.lines[l], word)) {
                    bits |= 1L << l;
                }
            }
            isWhole = isWhole && word.size > 0;
            return bits;
        }

        /** Whether it changed something. */
        private boolean sound(Line it, Text word) {
            int from = 0;
            changed.clear();
            for (int turn = 0; turn < WORD_ROOM && isWhole; turn++) {
                int looked = it.last ? Math.max(from, word.size - it.first.size) : from;
                int at = word.firstPlaceOf(it.first, looked);
                if (at == NONE) {
                    break;
                }
                isWhole = changed.addPart(word, from, at) && changed.addAll(it.second);
                from = at + it.first.size;
            }
            if (from == 0 || it.first.same(it.second)) {
                return false;
            }
            isWhole = isWhole && changed.addPart(word, from, word.size);
            word.set(changed);
            return true;
        }
    }

    /**
     * What the calls over all places need of each, kept until the next BOOK, as to make all FORMS
     * anew in each of them would be dear.
     */
    private static final class Survey {
        boolean known;
        /** The LINES of the first FORM's ROW; none if there is no FORM. */
        final long[] firstRow;
        private final long[] allRows;
        private final long[] marks;

        Survey() {
            firstRow = new long[PLACES];
            allRows = new long[PLACES];
            marks = new long[PLACES];
        }

        void look(Book in, Maker maker) {
            if (known) {
                return;
            }
            for (int at = 0; at < in.placeSize(); at++) {
                maker.makeAt(in, verbOf(at), tenseOf(at), personOf(at));
                note(at, maker.made);
            }
            known = true;
        }

        private void note(int at, FormList made) {
            firstRow[at] = 0;
            allRows[at] = 0;
            marks[at] = 0;
            for (int k = 0; k < made.size; k++) {
                Form it = made.get(k);
                if (it != null) {
                    long bits = it.lineBits();
                    firstRow[at] = k == 0 ? bits : firstRow[at];
                    allRows[at] |= bits;
                    marks[at] |= it.word.mark();
                }
            }
        }

        boolean hasForm(int at) {
            return marks[at] != 0;
        }

        /** False only if no FORM there has this mark. */
        boolean mayHave(int at, long mark) {
            return (marks[at] & mark) != 0;
        }

        long linesUsed(int places) {
            long bits = 0;
            for (int at = 0; at < places; at++) {
                bits |= allRows[at];
            }
            return bits;
        }

        int placesUsing(int l, int places) {
            int n = 0;
            for (int at = 0; at < places; at++) {
                n += (int) (allRows[at] >>> l & 1);
            }
            return n;
        }
    }

    /** A way to a word: the LINES that FIT there, and what is taken instead of them. */
    private static final class Way {
        /** The LINE that FITS. All ways are tried in the order of these and the LINES' numbers. */
        static final int OWN = -2;
        static final int NO_STEM = -1;
        static final int NO_ENDING = LINES;

        int except;
        int ownStem;
        int ownEnding;
        int stem;
        int ending;
        int sound;
        int otherSound;

        void set(Way from) {
            except = from.except;
            ownStem = from.ownStem;
            ownEnding = from.ownEnding;
            stem = from.stem;
            ending = from.ending;
            sound = from.sound;
            otherSound = from.otherSound;
        }

        int cost() {
            return (except == NONE ? 0 : 2)
                + (stem == OWN ? 0 : stem == NO_STEM ? 2 : 3)
                + (ending == OWN ? 0 : ending == NO_ENDING ? 4 : 3)
                + (sound == NONE ? 0 : 2)
                + (otherSound == NONE ? 0 : 2);
        }

        int changes() {
            return (except == NONE ? 0 : 1)
                + (stem == OWN ? 0 : 1)
                + (ending == OWN ? 0 : 1)
                + (sound == NONE ? 0 : 1)
                + (otherSound == NONE ? 0 : 1);
        }
    }

    /** Looks for the EXPLANATION of a SLIP, and keeps the latest one. */
    private static final class Explainer {
        final Way best;
        private final Way tried;
        private boolean isFound;
        private final Text stemmed;
        private final Text ended;
        private final Text word;
        private Book in;
        private Text answered;
        private Maker maker;
        /** How many CHANGES the EXPLANATION has; 0 if there is none. */
        private int size;
        private final int[] kinds;
        private final int[] missed;
        private final int[] taken;

        Explainer() {
            best = new Way();
            tried = new Way();
            stemmed = new Text(WORD_ROOM);
            ended = new Text(WORD_ROOM);
            word = new Text(WORD_ROOM);
            kinds = new int[MOST_CHANGES];
            missed = new int[MOST_CHANGES];
            taken = new int[MOST_CHANGES];
        }

        void forget() {
            size = 0;
        }

        /** The ways are tried in their order, so of equal ones the first is kept. */
        boolean explain(Book from, Text slip, Maker with, int v, int tense, int person) {
            in = from;
            answered = slip;
            maker = with;
            tried.except = in.nextFitting(EXCEPT, 0, v, tense, person);
            tried.ownStem = in.nextFitting(STEM, 0, v, tense, person);
            tried.ownEnding = in.nextFitting(ENDING, 0, v, tense, person);
            isFound = false;
            for (int s = Way.OWN; s < in.lineSize; s++) {
                if (putStem(v, s)) {
                    for (int e = Way.OWN; e <= Way.NO_ENDING; e++) {
                        if (putEnding(e) && isBetter()) {
                            trySounds();
                        }
                    }
                }
            }
            if (isFound) {
                tell();
            }
            return isFound;
        }

        /** False if there is no such way. */
        private boolean putStem(int v, int s) {
            tried.stem = s;
            if (s == Way.OWN) {
                in.putStem(v, tried.ownStem, stemmed);
                return true;
            }
            if (s == Way.NO_STEM) {
                in.putStem(v, NONE, stemmed);
                return tried.ownStem != NONE;
            }
            // One whose LETTERS don't stand there makes just what no stem makes, at more cost.
            return isOther(s, STEM, tried.ownStem) && in.putStem(v, s, stemmed);
        }

        /** False if there is no such way. The sounds are all there again. */
        private boolean putEnding(int e) {
            int ending = e == Way.OWN ? tried.ownEnding : e;
            if (e != Way.NO_ENDING && e != Way.OWN && !isOther(e, ENDING, tried.ownEnding)) {
                return false;
            }
            tried.ending = e;
            tried.sound = NONE;
            tried.otherSound = NONE;
            ended.set(stemmed);
            return e == Way.NO_ENDING || ending != NONE && ended.addAll(in.lines[ending].first);
        }

        private boolean isOther(int l, int kind, int own) {
            return l >= 0 && l < in.lineSize && in.lines[l].kind == kind && l != own;
        }

        /**
         * Leaves out only sounds that change something when those ahead of them are left out:
         * without another the same word is made, at more cost.
         */
        private void trySounds() {
            int left = MOST_CHANGES - tried.changes();
            long heard = tryWord();
            for (int a = 0; a < in.lineSize && left > 0; a++) {
                if ((heard >>> a & 1) != 0) {
                    tried.sound = a;
                    long others = tryWord();
                    for (int b = a + 1; b < in.lineSize && left > 1; b++) {
                        if ((others >>> b & 1) != 0) {
                            tried.otherSound = b;
                            tryWord();
                        }
                    }
                    tried.otherSound = NONE;
                }
            }
        }

        /** The sounds that changed something. */
        private long tryWord() {
            word.set(ended);
            long heard = maker.soundAll(in, word, tried.sound, tried.otherSound);
            if (maker.isWhole && word.same(answered) && isBetter()) {
                best.set(tried);
                isFound = true;
            }
            return heard;
        }

        private boolean isBetter() {
            int changes = tried.changes();
            if (changes > MOST_CHANGES || !isFound) {
                return changes <= MOST_CHANGES;
            }
            int less = best.cost() - tried.cost();
            return less > 0 || less == 0 && changes < best.changes();
        }

        private void tell() {
            size = 0;
            if (best.except != NONE) {
                addChange(0, best.except, NONE);
            }
            if (best.stem == Way.NO_STEM) {
                addChange(1, best.ownStem, NONE);
            } else if (best.stem != Way.OWN) {
                addChange(2, best.ownStem == NONE ? best.stem : best.ownStem, best.stem);
            }
            if (best.ending == Way.NO_ENDING) {
                addChange(4, best.ownEnding, NONE);
            } else if (best.ending != Way.OWN) {
                addChange(3, best.ownEnding == NONE ? best.ending : best.ownEnding, best.ending);
            }
            if (best.sound != NONE) {
                addChange(5, best.sound, NONE);
            }
            if (best.otherSound != NONE) {
                addChange(5, best.otherSound, NONE);
            }
        }

        private void addChange(int kind, int lineMissed, int lineTaken) {
            if (size < MOST_CHANGES) {
                kinds[size] = kind;
                missed[size] = lineMissed;
                taken[size] = lineTaken;
                size++;
            }
        }

        int detail(int what) {
            if (what == 0 && size > 0) {
                return size;
            }
            int i = what < 10 ? NONE : what % 10;
            if (i < 0 || i >= size) {
                return NO_SUCH;
            }
            switch (what / 10) {
                case 1: return kinds[i];
                case 2: return missed[i];
                case 3: return taken[i];
                default: return NO_SUCH;
            }
        }

        /** The LINES MISSED, each once: bit l is LINE l. */
        long missedBits() {
            long bits = 0;
            for (int i = 0; i < size; i++) {
                bits |= missed[i] == NONE ? 0 : 1L << missed[i];
            }
            return bits;
        }
    }

    private static final class Learner {
        final int[] missed;
        private final int[] latest;

        Learner() {
            missed = new int[LINES];
            latest = new int[] {NONE, NONE, NONE};
        }

        void forget() {
            for (int l = 0; l < LINES; l++) {
                missed[l] = 0;
            }
            for (int i = 0; i < LATEST; i++) {
                latest[i] = NONE;
            }
        }

        void notePlace(int at) {
            latest[2] = latest[1];
            latest[1] = latest[0];
            latest[0] = at;
        }

        boolean hasJustAnswered(int at) {
            return latest[0] == at || latest[1] == at || latest[2] == at;
        }

        void ease(long lineBits) {
            for (int l = 0; l < LINES; l++) {
                if ((lineBits >>> l & 1) != 0 && missed[l] > 0) {
                    missed[l]--;
                }
            }
        }

        void miss(long lineBits) {
            for (int l = 0; l < LINES; l++) {
                if ((lineBits >>> l & 1) != 0 && missed[l] < MOST_MISSES) {
                    missed[l]++;
                }
            }
        }

        int sumOf(long lineBits) {
            int sum = 0;
            for (int l = 0; l < LINES; l++) {
                if ((lineBits >>> l & 1) != 0) {
                    sum += missed[l];
                }
            }
            return sum;
        }
    }
}
