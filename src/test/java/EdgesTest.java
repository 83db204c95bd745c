/** Each sentence of the document that names an edge, by itself; Sentence tells if one is left out. */
public final class EdgesTest {
    public static void main(String[] args) {
        TermsEdges.all();
        DateEdges.all();
        SpanEdges.all();
        MonthEdges.all();
        TimeEdges.all();
        LengthEdges.all();
        MomentEdges.all();
        WholeEdges.all();
        ExceptionEdges.all();
        Sentence.noneIsLeft();
        Check.end("EdgesTest");
    }
}
