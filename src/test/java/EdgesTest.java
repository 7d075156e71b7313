import java.nio.file.Path;

/**
 * Boundary cases, sentence by sentence: what is taken and what is not, the empty and the full state, what is refused.
 * Takes the place of the document as its argument.
 */
public final class EdgesTest {
    public static void main(String[] args) throws Exception {
        Edges e = new Edges(Path.of(args.length > 0 ? args[0] : "../shared/DOC.md"));
        EdgesOfHouses.tell(e);
        EdgesOfShades.tell(e);
        EdgesOfHouseCalls.tell(e);
        EdgesOfNightCalls.tell(e);
        EdgesOfTellingCalls.tell(e);
        EdgesOfLastOnes.tell(e);
        e.nothingIsLeftOut();
        e.end("EdgesTest");
    }
}
