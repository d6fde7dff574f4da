import java.io.IOException;
import java.util.Set;
import java.util.TreeSet;

/** Each sentence of the document has a test of its own, and holds. */
final class EdgeTest {
    private static final Check check = new Check("EdgeTest");

    public static void main(String[] args) throws IOException {
        Set<String> tested = new TreeSet<>();
        new UseEdges(check, tested).test();
        new TrackEdges(check, tested).test();
        new RaceEdges(check, tested).test();
        new PassEdges(check, tested).test();
        new RankEdges(check, tested).test();
        new ItemEdges(check, tested).test();
        new CupEdges(check, tested).test();
        compareWithDocument(tested);
        check.finish();
    }

    private static void compareWithDocument(Set<String> tested) throws IOException {
        Set<String> told = Document.sentences();
        for (String sentence : told) {
            check.due(sentence + " [has a test]", tested.contains(sentence), true);
        }
        for (String sentence : tested) {
            check.due(sentence + " [stands in the document]", told.contains(sentence), true);
        }
    }
}
