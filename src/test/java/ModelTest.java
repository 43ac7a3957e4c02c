import java.util.Random;

/** All promises: the class and the model on random runs of calls (the same ones each time). */
public final class ModelTest {
    private static final int RUNS = 300;
    private static final int CALLS = 512;
    private static int wrong = 0;

    private final Random random;
    private final int run;
    private final VerbSchool x = new VerbSchool();
    private final Model m = new Model();
    private int calls = 0;
    private int verbs = 0;
    private int lines = 0;

    private ModelTest(int run) {
        this.run = run;
        random = new Random(run);
    }

    public static void main(String[] args) {
        int runs = args.length > 0 ? Integer.parseInt(args[0]) : RUNS;
        int from = args.length > 1 ? Integer.parseInt(args[1]) : 0;
        for (int run = from; run < from + runs; run++) {
            new ModelTest(run).play();
        }
        System.out.println(wrong == 0 ? "ModelTest: all answers are as due" : "ModelTest: " + wrong + " answers are not as due");
        if (wrong != 0) {
            System.exit(1);
        }
    }

    private void same(String call, int got, int due) {
        calls++;
        if (got != due && wrong++ < 50) {
            System.out.println("run " + run + ", call " + calls + ": " + call + " answered " + got + ", due is " + due);
        }
    }

    private void play() {
        tellBook(new BookWriter(random).text());
        while (calls < CALLS - 210) {
            int kind = random.nextInt(40);
            if (kind == 0) {
                tellBook(new BookWriter(random).text());
            } else if (kind == 1) {
                tellBook(spoiled(new BookWriter(random).text()));
            } else {
                ask(kind);
            }
        }
    }

    private void ask(int kind) {
        int v = about(verbs);
        int t = about(5);
        int p = about(6);
        for (int turns = 0; turns < 8 && m.forms(v, t, p) <= 0 && random.nextInt(9) > 0; turns++) {
            v = about(verbs);
            t = about(5);
            p = about(6);
        }
        int l = random.nextInt(6) == 0 ? about(8) : 0;
        int line = about(lines);
        if (kind < 6) {
            same("forms", x.forms(v, t, p), m.forms(v, t, p));
            same("rivals", x.rivals(v, t, p), m.rivals(v, t, p));
        } else if (kind < 11) {
            int k = random.nextInt(3) - (random.nextInt(9) == 0 ? 1 : 0);
            int i = about(12);
            same("form", x.form(v, t, p, k, i), m.form(v, t, p, k, i));
            same("row", x.row(v, t, p, k, i), m.row(v, t, p, k, i));
        } else if (kind < 14) {
            type(word(v, t, p));
            same("read", x.read(), m.read());
            for (int n = 0; n < 3; n++) {
                int i = random.nextInt(n == 0 ? 3 : 62) - 1;
                int what = about(3);
                same("place", x.place(i, what), m.place(i, what));
            }
        } else if (kind < 16) {
            same("users", x.users(line), m.users(line));
            same("unused", x.unused(), m.unused());
        } else if (kind < 28) {
            String word = word(v, t, p);
            type(word);
            same("answer " + word, x.answer(l, v, t, p), m.answer(l, v, t, p));
            for (int what : new int[] {0, 10, 20, 30, 11, 21, 31, about(50)}) {
                same("change " + what + " of " + word, x.change(what), m.change(what));
            }
        } else if (kind < 31) {
            same("misses", x.misses(l, line), m.misses(l, line));
        } else if (kind < 35) {
            same("drill", x.drill(l), m.drill(l));
        } else {
            for (int n = -1; n < 5; n++) {
                same("count " + n, x.count(n), m.count(n));
            }
            int what = about(22);
            same("verb", x.verb(v, what), m.verb(v, what));
            what = about(7);
            same("line", x.line(line, what), m.line(line, what));
        }
    }

    private int about(int size) {
        if (random.nextInt(200) == 0) {
            return random.nextBoolean() ? Integer.MIN_VALUE + random.nextInt(20) : Integer.MAX_VALUE - random.nextInt(20);
        }
        return random.nextInt(30) == 0 ? random.nextInt(size + 3) - 1 : random.nextInt(Math.max(1, size));
    }

    private void type(String text) {
        int[] five = new int[5];
        int had = m.count(3);
        for (int i = 0; i < text.length(); i += 20) {
            for (int k = 0; k < 20; k++) {
                int b = i + k < text.length() ? text.charAt(i + k) : 0;
                five[k / 4] = five[k / 4] << 8 | b;
            }
            same("feed", x.feed(five[0], five[1], five[2], five[3], five[4]), m.feed(five));
        }
        int n = had + text.length() - (random.nextInt(60) == 0 ? random.nextInt(3) - 1 : 0);
        same("end", x.end(n), m.end(n));
    }

    private void tellBook(String text) {
        type(text);
        same("book", x.book(), m.book());
        same("fault(0) of " + text, x.fault(0), m.fault(0));
        same("fault(1) of " + text, x.fault(1), m.fault(1));
        verbs = m.count(1);
        lines = m.count(2);
    }

    /** A form of some place, or one that a learner might say, or any word. */
    private String word(int v, int t, int p) {
        StringBuilder word = new StringBuilder();
        if (m.forms(v, t, p) >= 0 && random.nextInt(3) > 0) {
            return m.slipOf(v, t, p, random);
        }
        boolean here = random.nextInt(3) > 0;
        int v2 = here || random.nextBoolean() ? v : about(verbs);
        int t2 = here ? t : about(5);
        int p2 = here ? p : about(6);
        int k = random.nextInt(5) == 0 ? 1 : 0;
        for (int i = 0; m.form(v2, t2, p2, k, i) >= 0; i++) {
            word.append((char) m.form(v2, t2, p2, k, i));
        }
        if (random.nextInt(3) == 0) {
            word.setLength(0);
            for (int i = 10; m.verb(v, i) >= 0; i++) {
                word.append((char) m.verb(v, i));
            }
        }
        for (int turns = random.nextInt(3); turns > 0; turns--) {
            int at = word.length() == 0 ? 0 : random.nextInt(word.length());
            char c = (char) ('a' + random.nextInt(3));
            if (random.nextBoolean()) {
                word.insert(random.nextBoolean() ? word.length() : at, c);
            } else if (word.length() > 0) {
                word.setCharAt(at, c);
            }
        }
        if (random.nextInt(4) == 0 && word.length() > 0) {
            word.setLength(word.length() - 1);
        }
        return word.toString();
    }

    private String spoiled(String text) {
        StringBuilder all = new StringBuilder(text);
        String signs = "abz'; 0459\n\tA" + (char) 200 + (char) 0;
        int at = all.length() == 0 ? 0 : random.nextInt(all.length());
        char c = signs.charAt(random.nextInt(signs.length()));
        switch (random.nextInt(4)) {
            case 0:
                all.insert(at, c);
                break;
            case 1:
                all.setLength(at);
                break;
            case 2:
                if (at < all.length()) {
                    all.deleteCharAt(at);
                }
                break;
            default:
                if (at < all.length()) {
                    all.setCharAt(at, c);
                }
        }
        return all.toString();
    }
}
