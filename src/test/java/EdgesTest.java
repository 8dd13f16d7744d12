import java.io.IOException;

/** Promises 1 to 51, sentence by sentence: each edge that DOC.md names, on both sides. */
public final class EdgesTest {
    public static void main(String[] args) throws IOException {
        Edges edges = new Edges();
        new EdgesOfTerms(edges).look();
        new EdgesOfRows(edges).look();
        new EdgesOfHides(edges).look();
        new EdgesOfStories(edges).look();
        new EdgesOfNights(edges).look();
        new EdgesOfKnocks(edges).look();
        new EdgesOfOutlines(edges).look();
        new EdgesOfMoments(edges).look();
        new EdgesOfTold(edges).look();
        edges.end();
    }
}
