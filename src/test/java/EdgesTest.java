import java.io.IOException;

/** Each sentence of the document that names an edge, with a test of its own on both sides of it. */
public final class EdgesTest {
    public static void main(String[] args) throws IOException {
        Book b = new Book();
        new StoryEdges(b).run();
        new TextEdges(b).run();
        new TurnEdges(b).run();
        new AheadEdges(b).run();
        new HeardEdges(b).run();
        new NextDayEdges(b).run();
        new PromiseEdges(b).run();
        b.end();
    }
}
