import java.io.IOException;

/** Each sentence of the document, quoted and tested; run from the project's root. */
public final class DocumentTest {
    public static void main(String[] args) throws IOException {
        Document doc = new Document();
        SentencesOfFace.all(doc);
        SentencesOfCalls.all(doc);
        EdgesOfTerms.all(doc);
        EdgesOfRules.all(doc);
        EdgesOfRefusals.all(doc);
        EdgesOfSorts.all(doc);
        EdgesOfNights.all(doc);
        EdgesOfTells.all(doc);
        EdgesOfLater.all(doc);
        EdgesOfBoxes.all(doc);
        EdgesOfHeard.all(doc);
        EdgesOfChances.all(doc);
        EdgesOfKept.all(doc);
        doc.noneLeftOut();
        Calls.close("DocumentTest");
    }
}
