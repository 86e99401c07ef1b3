import java.util.LinkedHashSet;
import java.util.Set;

/** The tests that ran, by their names, and what went wrong in them. */
final class Report {
    /** A test is called after the words that it tests, and where they stand; the edge tells its case. */
    private record Name(String section, String words, String edge) {
        @Override
        public String toString() {
            return section + ", \"" + words + "\" [" + edge + "]";
        }
    }

    private final Set<Name> names = new LinkedHashSet<>();
    private Name now;
    private int checks;
    private int wrong;

    void begin(String section, String words, String edge) {
        now = new Name(section, words, edge);
        if (!names.add(now)) {
            isWrong("two tests have this name");
        }
    }

    void check(Object want, Object got) {
        checks++;
        if (!want.equals(got)) {
            isWrong("got " + got + ", due " + want);
        }
    }

    void isWrong(String how) {
        wrong++;
        System.out.println(now + lineOfTest() + ": " + how);
    }

    /** Each test must quote the document, and each sentence of the document must have a test. */
    void holdAgainst(Document document) {
        for (Name name : names) {
            if (!document.holds(name.section, name.words)) {
                wrong++;
                System.out.println(name + ": these words are not in that section of the document");
            }
        }
        for (String section : document.sectionsToTest()) {
            for (String sentence : document.sentencesOf(section)) {
                if (names.stream().noneMatch(n -> n.section.equals(section) && isOf(n.words, sentence))) {
                    wrong++;
                    System.out.println(section + ": no test bears the sentence \"" + sentence + "\"");
                }
            }
        }
    }

    boolean isAllRight() {
        System.out.println(names.size() + " tests, " + checks + " checks, " + wrong + " wrong");
        return wrong == 0 && checks > 0;
    }

    private static boolean isOf(String words, String sentence) {
        return sentence.contains(words) || words.contains(sentence);
    }

    private static String lineOfTest() {
        for (StackTraceElement at : new Throwable().getStackTrace()) {
            if (at.getClassName().endsWith("Sentences") && !at.getClassName().equals("Sentences")) {
                return " (" + at.getFileName() + ":" + at.getLineNumber() + ")";
            }
        }
        return "";
    }
}
