import java.io.IOException;
import java.nio.file.Files;
import java.nio.file.Path;
import java.util.Map;
import java.util.TreeMap;
import java.util.regex.Matcher;
import java.util.regex.Pattern;

/**
 * Tests sentence by sentence. Each test names its promise and quotes the words it tests; at the end it is looked
 * at in the document that the words stand there, and that no words of a promise are left without a test.
 */
final class Sentences {
    /** Stands for a promise's number in what tests the document's Terms. */
    static final int TERMS = 0;

    private static final int PROMISES = 36;

    /** What the document says of one promise, and which of its signs have been quoted. */
    private static final class Section {
        private final String text;
        private final boolean[] isQuoted;

        private Section(String text) {
            this.text = text;
            this.isQuoted = new boolean[text.length()];
        }

        /** Words that stand there more than once are quoted one after another. */
        private boolean quote(String words) {
            int at = text.indexOf(words);
            if (at < 0) {
                return false;
            }
            for (int next = at; next >= 0 && isQuoted[at]; next = text.indexOf(words, next + 1)) {
                at = isQuoted[next] ? at : next;
            }
            for (int i = at; i < at + words.length(); i++) {
                isQuoted[i] = true;
            }
            return true;
        }

        private String left() {
            StringBuilder left = new StringBuilder();
            for (int i = 0; i < isQuoted.length; i++) {
                left.append(isQuoted[i] ? ' ' : text.charAt(i));
            }
            return left.toString().strip().replaceAll(" +", " ");
        }
    }

    private final Map<Integer, Section> sections = new TreeMap<>();
    private int promise = TERMS;
    private int sentences = 0;
    private int asked = 0;
    private int wrong = 0;

    Sentences(Path document) throws IOException {
        if (!Files.isReadable(document)) {
            System.out.println("no " + document + ": the quotes are not looked at");
            return;
        }
        Matcher m = Pattern.compile("(?s)\n## (Terms|Promise (\\d+): \\w[^\n]*)\n(.*?)(?=\n## )")
            .matcher(Files.readString(document));
        while (m.find()) {
            int number = m.group(2) == null ? TERMS : Integer.parseInt(m.group(2));
            // The signature that opens a promise is LanguageTest's.
            String text = m.group(3).replaceAll("```\\w*", " ").strip().replaceFirst("^`[^`]*`: ", "");
            sections.put(number, new Section(text.replaceAll("\\s+", " ")));
        }
        if (sections.size() != PROMISES + 1) {
            fail("the document has " + sections.size() + " sections, due is " + (PROMISES + 1));
        }
    }

    private void fail(String what) {
        wrong++;
        System.out.println((promise == TERMS ? "Terms: " : "promise " + promise + ": ") + what);
    }

    /** What follows is of this promise. */
    void promise(int number) {
        promise = number;
    }

    /** A sentence, or a part of one that names a case, and the runs that fail if it does not hold. */
    void sentence(String words, String... runs) {
        sentences++;
        quote(words);
        int before = asked;
        for (String run : runs) {
            asked += Script.go(run, what -> fail("'" + words + "': " + what));
        }
        if (asked == before) {
            fail("'" + words + "': nothing is asked");
        }
    }

    /** Words that lead in to others and promise nothing by themselves. */
    void leadIn(String words) {
        quote(words);
    }

    private void quote(String words) {
        if (!sections.isEmpty() && (!sections.containsKey(promise) || !sections.get(promise).quote(words))) {
            fail("the document does not say '" + words + "'");
        }
    }

    void end() {
        for (Map.Entry<Integer, Section> e : sections.entrySet()) {
            promise = e.getKey();
            if (!e.getValue().left().isEmpty()) {
                fail("no test quotes '" + e.getValue().left() + "'");
            }
        }
        System.out.println(sentences + " sentences, " + asked + " answers asked, " + wrong + " not as due");
        if (wrong != 0) {
            System.exit(1);
        }
    }
}
