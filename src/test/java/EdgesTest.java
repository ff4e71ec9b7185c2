/** Each sentence of the document that names a boundary case, by promises; and that none of them is left out. */
public final class EdgesTest {
    public static void main(String[] args) {
        EdgesOfVillage.all();
        EdgesOfRules.all();
        EdgesOfNights.all();
        EdgesOfPlans.all();
        EdgesOfLots.all();
        EdgesOfHost.all();
        Edge.nothingIsLeft();
        Check.end();
    }
}
