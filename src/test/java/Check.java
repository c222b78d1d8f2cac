import java.util.LinkedHashSet;
import java.util.List;
import java.util.Set;

/** What the tests share: the sentence of the document that is tested, and the count of wrong answers. */
final class Check {
    static final String INDEX = "throws.IndexOutOfBoundsException";
    static final String ARGUMENT = "throws.IllegalArgumentException";
    static final String STATE = "throws.IllegalStateException";
    static final String UNSUPPORTED = "throws.UnsupportedOperationException";
    static final String ELEMENT = "throws.NoSuchElementException";
    static final String ARITHMETIC = "throws.ArithmeticException";

    private final String title;
    private final Set<String> quoted = new LinkedHashSet<>();
    private String part = "";
    private String sentence = "";
    private int checksOfSentence = 0;
    private int checks = 0;
    private int wrong = 0;

    Check(String title) {
        this.title = title;
    }

    /** The part of the document that the sentences from now on are from. */
    void part(String name) {
        sentence("");
        part = name;
    }

    void promise(int number) {
        part("promise " + number);
    }

    /** What is checked from now on tests this sentence. */
    void sentence(String text) {
        if (!sentence.isEmpty()) {
            same("tests", checksOfSentence == 0 ? "none" : "some", "some");
        }
        sentence = text;
        checksOfSentence = 0;
        if (!text.isEmpty() && !quoted.add(part + ": " + text)) {
            same("tests", "twice", "once");
        }
    }

    Run run() {
        return new Run(this);
    }

    Run run(String calls) {
        return run().go(calls);
    }

    void counted() {
        checks++;
        checksOfSentence++;
    }

    void same(String what, String got, String want) {
        counted();
        if (!got.equals(want)) {
            wrong++;
            System.out.println(title + (part.isEmpty() ? "" : ", " + part) + (sentence.isEmpty() ? "" : ", " + sentence));
            System.out.println("  " + what + " answered " + got + ", due is " + want);
        }
    }

    /** Each sentence of these promises has its test, and each test its sentence. */
    void coversPromises(int first, int last) {
        Set<String> told = new LinkedHashSet<>();
        for (int number = first; Document.isAtHand() && number <= last; number++) {
            for (String text : Document.promise(number)) {
                told.add("promise " + number + ": " + text);
            }
        }
        covers(told);
    }

    void coversTerms(String part) {
        Set<String> told = new LinkedHashSet<>();
        for (String text : Document.isAtHand() ? Document.terms() : List.<String>of()) {
            told.add(part + ": " + text);
        }
        covers(told);
    }

    private void covers(Set<String> told) {
        sentence("");
        part = "";
        if (!Document.isAtHand()) {
            System.out.println(title + ": no document at hand to hold the quoted sentences against");
            return;
        }
        for (String text : told) {
            same(text, quoted.contains(text) ? "tested" : "not tested", "tested");
        }
        for (String text : quoted) {
            same(text, told.contains(text) ? "in the document" : "not in the document", "in the document");
        }
    }

    void end() {
        sentence("");
        System.out.println(title + ": " + checks + " checks, " + wrong + " wrong");
        if (wrong != 0 || checks == 0) {
            System.exit(1);
        }
    }
}
