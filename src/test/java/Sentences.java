import java.util.ArrayList;
import java.util.List;

/** Sentences of the document, each with the tests that hold it. */
final class Sentences {
    /** The section of the document, its sentence word for word, the case of it that is tested, and the test. */
    record Sentence(String section, String text, String edge, Runnable test) {
    }

    final List<Sentence> all = new ArrayList<>();
    private String section = "";

    void section(String heading) {
        section = heading;
    }

    void holds(String text, String edge, Runnable test) {
        all.add(new Sentence(section, text, edge, test));
    }

    /** Each test by itself: what one of them throws does not keep the others from being run. */
    void check() {
        int broken = 0;
        for (Sentence sentence : all) {
            int before = Check.wrongSoFar();
            Check.at(sentence.section + " | " + sentence.text + " | " + sentence.edge);
            try {
                sentence.test.run();
            } catch (RuntimeException e) {
                Check.wrong("the test ended with " + e);
            }
            broken += Check.wrongSoFar() > before ? 1 : 0;
        }
        Check.at("");
        System.out.println(all.size() + " tests of sentences, " + broken + " of them do not hold");
    }
}
