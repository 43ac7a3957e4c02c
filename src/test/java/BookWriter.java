import java.util.ArrayList;
import java.util.HashMap;
import java.util.List;
import java.util.Map;
import java.util.Random;

/** Random texts of books, most without a fault, over few letters, so that rules meet often. */
final class BookWriter {
    private final Random random;
    private final StringBuilder out = new StringBuilder();
    private final List<String> classes = new ArrayList<>();
    private final List<String> verbs = new ArrayList<>();
    private final Map<String, Integer> excepts = new HashMap<>();
    private final int tenses;
    private final boolean careless;
    private int lines = 0;

    BookWriter(Random random) {
        this.random = random;
        tenses = 1 + random.nextInt(random.nextInt(3) == 0 ? 5 : 2);
        careless = random.nextInt(6) == 0;
    }

    String text() {
        int items = random.nextInt(10) == 0 ? 100 : 5 + random.nextInt(30);
        add("class", "a");
        classes.add("a");
        out.append(';');
        addVerb();
        addVerb();
        for (int i = 0; i < items && out.length() < 3900; i++) {
            int kind = random.nextInt(careless ? 40 : 30);
            if (kind == 0 && (classes.size() < 6 || careless)) {
                String name = letters(1, 3);
                if (!classes.contains(name) || careless) {
                    add("class", name);
                    classes.add(name);
                    out.append(';');
                }
            } else if (kind < 4) {
                if (verbs.size() < 30 || careless) {
                    addVerb();
                }
            } else if (lines < 60 || careless) {
                addLine(kind);
                out.append(';');
                lines++;
            }
        }
        return out.toString();
    }

    private void addVerb() {
        String name = random.nextInt(12) == 0 ? letters(9, 12) : letters(1, 6);
        if (!verbs.contains(name)) {
            add("verb", name, "of", any(classes));
            verbs.add(name);
            out.append(';');
        }
    }

    private void addLine(int kind) {
        if (kind < 10) {
            add("stem");
            where();
            slot();
            change();
        } else if (kind < 17) {
            add("ending");
            where();
            slot();
            quote(random.nextInt(9) == 0 ? letters(6, 8) : letters(0, 2));
        } else if (kind < 24) {
            add("sound");
            change();
            if (random.nextInt(3) == 0) {
                add("last");
            }
        } else if (kind < 26) {
            add("compound");
            where();
            add("tense", number(tenses), "by", any(verbs), "tense", number(tenses), "part", number(tenses));
        } else if (kind < 28) {
            addExcept();
        } else if (kind < 30) {
            add("lack", any(verbs));
            slot();
        } else {
            add(new String[] {"last", "stem all tense 0 ''", "except a tense 7", "lack zz", "ending in zz", "sound 'a' to",
                "class class", "verb", "sound '' to 'a'", "lack a tense 0 person 6"}[kind - 30]);
        }
    }

    private void addExcept() {
        String verb = any(verbs);
        int start = out.length();
        slot();
        String slot = out.substring(start).replaceAll("\\s", "");
        out.setLength(start);
        boolean third = excepts.merge(verb + slot, 1, Integer::sum) > 2;
        if (third && !careless) {
            add("lack", verb, "tense", number(tenses), "person", number(6));
        } else {
            add("except", verb, slot.replace("tense", "tense ").replace("person", " person "));
            quote(letters(1, 4));
        }
    }

    private void where() {
        if (random.nextInt(3) == 0) {
            add("in", any(classes));
        } else {
            add("all");
        }
    }

    private void slot() {
        add("tense", number(tenses));
        if (random.nextInt(2) == 0) {
            add("person", number(random.nextBoolean() ? 2 : 6));
        }
    }

    private void change() {
        quote(random.nextInt(12) == 0 ? letters(3, 4) : letters(1, 2));
        out.append(" to ");
        quote(random.nextInt(12) == 0 ? letters(3, 8) : letters(0, 2));
    }

    private void add(String... words) {
        for (String word : words) {
            boolean touching = out.length() > 0 && Character.isLetterOrDigit(out.charAt(out.length() - 1));
            if (touching || random.nextInt(8) == 0) {
                out.append(random.nextInt(8) == 0 ? "\n" : " ");
            }
            out.append(word);
        }
    }

    private void quote(String letters) {
        out.append('\'').append(letters).append('\'');
    }

    private String number(int bound) {
        return "" + (careless && random.nextInt(50) == 0 ? random.nextInt(20) : random.nextInt(bound));
    }

    private String any(List<String> names) {
        return names.get(random.nextInt(names.size()));
    }

    private String letters(int least, int most) {
        StringBuilder all = new StringBuilder();
        for (int n = least + random.nextInt(most - least + 1); n > 0; n--) {
            all.append((char) ('a' + random.nextInt(random.nextInt(5) == 0 ? 4 : 2)));
        }
        return all.toString();
    }
}
