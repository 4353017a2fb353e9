/**
 * The boundary cases of the document, sentence by sentence: each method quotes the words it is about, the words must
 * stand in the document, and no words of the terms and promises may be left without one.
 */
public final class EdgesTest {
    public static void main(String[] args) {
        PlantEdges.run();
        NameEdges.run();
        BedEdges.run();
        TextEdges.run();
        SendEdges.run();
        CheckEdges.run();
        MarkEdges.run();
        Refusals.run();
        Due.allOfTheDocument();
        Due.end();
    }
}
