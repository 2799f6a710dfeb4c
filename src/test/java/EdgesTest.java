/** Each call with the last values that are taken and the first ones that are refused, and each row of "Throws". */
public final class EdgesTest {
    public static void main(String[] args) {
        DraftingEdges.all();
        LawEdges.all();
        StaffEdges.all();
        Edges.allRowsSeen();
        Check.end("EdgesTest");
    }
}
