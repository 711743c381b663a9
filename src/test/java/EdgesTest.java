import java.io.IOException;

/** Each sentence of the document that names an edge, quoted and tested; run from the project's root. */
public final class EdgesTest {
    public static void main(String[] args) throws IOException {
        Edges doc = new Edges();
        EdgesOfTerms.all(doc);
        EdgesOfRules.all(doc);
        EdgesOfRefusals.all(doc);
        EdgesOfSorts.all(doc);
        EdgesOfNights.all(doc);
        EdgesOfTells.all(doc);
        EdgesOfLater.all(doc);
        EdgesOfBoxes.all(doc);
        EdgesOfHeard.all(doc);
        EdgesOfChances.all(doc);
        EdgesOfKept.all(doc);
        doc.noneLeftOut();
        Calls.close("EdgesTest");
    }
}
