import java.util.ArrayList;
import java.util.List;
import java.util.Random;

/** Random texts of books, most without a fault, over few letters, so that rules meet often. */
final class BookWriter {
    private final Random random;
    private final StringBuilder out = new StringBuilder();
    private final List<String> classes = new ArrayList<>();
    private final List<String> verbs = new ArrayList<>();
    private final int tenses;

    BookWriter(Random random) {
        this.random = random;
        tenses = 1 + random.nextInt(5);
    }

    String text() {
        boolean careless = random.nextInt(4) == 0;
        int items = random.nextInt(10) == 0 ? 100 : 5 + random.nextInt(30);
        add("class", "a");
        classes.add("a");
        out.append(';');
        addVerb();
        for (int i = 0; i < items && out.length() < 3900; i++) {
            int kind = random.nextInt(careless ? 40 : 30);
            if (kind == 0 && (classes.size() < 6 || random.nextInt(9) == 0)) {
                String name = letters(1, 3);
                if (!classes.contains(name) || careless) {
                    add("class", name);
                    classes.add(name);
                    out.append(';');
                }
            } else if (kind < 6 && (verbs.size() < 30 || random.nextInt(9) == 0)) {
                addVerb();
            } else {
                addLine(kind);
                out.append(';');
            }
        }
        return out.toString();
    }

    private void addVerb() {
        String name = random.nextInt(12) == 0 ? letters(9, 12) : letters(1, 6);
        if (!verbs.contains(name)) {
            add("verb", name, "of", any(classes));
            verbs.add(name);
            out.append(';');
        }
    }

    private void addLine(int kind) {
        if (kind < 11) {
            add("stem");
            where();
            slot();
            change();
        } else if (kind < 17) {
            add("ending");
            where();
            slot();
            quote(random.nextInt(9) == 0 ? letters(6, 8) : letters(0, 2));
        } else if (kind < 24) {
            add("sound");
            change();
            if (random.nextInt(3) == 0) {
                add("last");
            }
        } else if (kind == 24) {
            add("compound");
            where();
            add("tense", number(tenses), "by", any(verbs), "tense", number(tenses), "part", number(tenses));
        } else if (kind < 28) {
            add("except", any(verbs));
            slot();
            quote(letters(1, 4));
        } else if (kind < 30) {
            add("lack", any(verbs));
            slot();
        } else {
            add(new String[] {"last", "stem all tense 0 ''", "except a tense 7", "lack zz", "ending in zz", "sound 'a' to",
                "class class", "verb", "sound '' to 'a'", "lack a tense 0 person 6"}[kind - 30]);
        }
    }

    private void where() {
        if (random.nextInt(3) == 0) {
            add("in", any(classes));
        } else {
            add("all");
        }
    }

    private void slot() {
        add("tense", number(tenses));
        if (random.nextInt(3) == 0) {
            add("person", number(6));
        }
    }

    private void change() {
        quote(random.nextInt(12) == 0 ? letters(3, 4) : letters(1, 2));
        out.append(" to ");
        quote(random.nextInt(12) == 0 ? letters(3, 8) : letters(0, 2));
    }

    private void add(String... words) {
        for (String word : words) {
            boolean touching = out.length() > 0 && Character.isLetterOrDigit(out.charAt(out.length() - 1));
            if (touching || random.nextInt(8) == 0) {
                out.append(random.nextInt(8) == 0 ? "\n" : " ");
            }
            out.append(word);
        }
    }

    private void quote(String letters) {
        out.append('\'').append(letters).append('\'');
    }

    private String number(int bound) {
        return "" + (random.nextInt(400) == 0 ? random.nextInt(20) : random.nextInt(bound));
    }

    private String any(List<String> names) {
        return names.get(random.nextInt(names.size()));
    }

    private String letters(int least, int most) {
        StringBuilder all = new StringBuilder();
        for (int n = least + random.nextInt(most - least + 1); n > 0; n--) {
            all.append((char) ('a' + random.nextInt(random.nextInt(5) == 0 ? 4 : 2)));
        }
        return all.toString();
    }
}
