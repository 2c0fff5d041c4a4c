import java.nio.file.Files;
import java.nio.file.Path;
import java.util.TreeMap;
import java.util.TreeSet;

/** For each sentence of the document that names a boundary case a test of its own. */
public final class BoundaryTest {
    private static final Path DOCUMENT = Path.of("../shared/DOC.md");

    private BoundaryTest() {
    }

    /** Runs all, and answers the promises of which a test failed. */
    public static TreeSet<Integer> broken() {
        ProgramSentences.all();
        NeedSentences.all();
        RoundSentences.all();
        BackSentences.all();
        RunSentences.all();
        RefusalSentences.all();
        AgainSentences.all();
        return Sentences.broken();
    }

    /** Words that the document no longer has are told, but are no fault of the program. */
    private static void lookUp() throws Exception {
        if (!Files.isReadable(DOCUMENT)) {
            return;
        }
        String document = Files.readString(DOCUMENT);
        for (Sentences.Sentence one : Sentences.done()) {
            if (!document.contains(one.words())) {
                System.out.println("no longer in the document: " + one.words());
            }
        }
    }

    public static void main(String[] args) throws Exception {
        TreeSet<Integer> broken = broken();
        Sentences.complaints().forEach(System.out::println);
        lookUp();
        TreeMap<Integer, Integer> tests = new TreeMap<>();
        for (Sentences.Sentence one : Sentences.done()) {
            tests.merge(one.promise(), 1, Integer::sum);
        }
        boolean each = true;
        for (int promise = 1; promise <= 22; promise++) {
            if (!tests.containsKey(promise)) {
                each = false;
                System.out.println("no sentence of promise " + promise + " is tested");
            }
        }
        System.out.println(Sentences.done().size() + " sentences, by promise " + tests + ", broken " + broken);
        if (!each || !broken.isEmpty()) {
            System.exit(1);
        }
    }
}
