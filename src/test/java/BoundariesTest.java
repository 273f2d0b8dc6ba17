/**
 * Each sentence of the document, held by runs of its own at the boundaries that it names. The runs stand with the
 * sentence in the document's own words; at the end it is looked whether one is without a run.
 */
public final class BoundariesTest {
    public static void main(String[] args) {
        BoundariesOfTerms.hold();
        BoundariesOfDoors.hold();
        BoundariesOfKnocks.hold();
        BoundariesOfRooms.hold();
        BoundariesOfInput.hold();
        BoundariesOfPast.hold();
        Sentences.allAreQuoted();
        Check.end("BoundariesTest");
    }
}
