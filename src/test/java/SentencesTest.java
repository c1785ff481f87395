import java.util.List;

/** A test for each sentence of the document; with any argument it tells the passed ones, too. */
public final class SentencesTest extends Checks {
    /** Runs all tests and answers how many failed. */
    static int failures() {
        GeneralSentences.all();
        MachineSentences.all();
        ProductSentences.all();
        LotSentences.all();
        InspectionSentences.all();
        CauseSentences.all();
        DrawerSentences.all();
        TextSentences.all();
        ChangeSentences.all();
        return failed();
    }

    public static void main(String[] args) {
        int failed = failures();
        List<String> unquoted = DOCUMENT.unquoted();
        unquoted.forEach(piece -> System.out.println("no test quotes this, " + piece));
        if (args.length > 0) {
            passedNames().forEach(System.out::println);
        }
        System.out.println("sentences: " + passed() + " passed, " + failed + " failed");
        if (failed > 0 || !unquoted.isEmpty() || DOCUMENT.promises() != 40) {
            System.exit(1);
        }
    }
}
