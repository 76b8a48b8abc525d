import java.io.IOException;
import java.util.List;
import java.util.Map;

/**
 * The edges that the document names, sentence by sentence. Each test quotes the words that it asks; words that no test
 * quotes are a fault, and so are two exceptions of one promise of which nobody asks which one comes first.
 */
public final class EdgesTest {
    public static void main(String[] args) throws IOException {
        Edges.document = new Document();
        SizeEdges.ask();
        StyleEdges.ask();
        HideEdges.ask();
        CutEdges.ask();
        SewEdges.ask();
        LastEdges.ask();
        ReturnEdges.ask();
        FigureEdges.ask();
        Edges.document.demandAllQuoted();
        demandAllOrders();
        Check.end();
    }

    private static void demandAllOrders() {
        for (Map.Entry<Integer, List<String>> promise : Edges.document.exceptions().entrySet()) {
            List<String> thrown = promise.getValue();
            for (int second = 1; second < thrown.size(); second++) {
                for (int first = 0; first < second; first++) {
                    String order = promise.getKey() + " " + thrown.get(first) + " " + thrown.get(second);
                    if (!Edges.ORDERS.contains(order)) {
                        Check.fails("no test asks which comes first of " + order);
                    }
                }
            }
        }
    }
}
