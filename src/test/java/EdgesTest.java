/** Each sentence of the document, where it names the least, the greatest, something empty, full or refused. */
public final class EdgesTest {
    public static void main(String[] args) {
        TermsEdges.run();
        RuleEdges.run();
        TextEdges.run();
        StateEdges.run();
        InputEdges.run();
        WorldEdges.run();
        TicketEdges.run();
        RefusalEdges.run();
        CountEdges.run();
        ActionEdges.run();
        OutputEdges.run();
        Edge.end();
    }
}
