import java.io.IOException;

/** Each sentence of the document that names a boundary case, by its own words. */
public final class EdgeTest {
    private EdgeTest() {
    }

    public static void main(String[] args) throws IOException {
        Edge.readDocument();
        TextEdges.run();
        NightEdges.run();
        AloneEdges.run();
        OtherwiseEdges.run();
        ActEdges.run();
        RowEdges.run();
        Edge.close();
    }
}
