import java.io.IOException;

/**
 * The boundary cases that the document names, sentence by sentence: each test says which one it
 * holds the class to, and in the end no word of "What it is", the Terms or a promise is without one.
 */
public final class EdgesTest {
    public static void main(String[] args) throws IOException {
        Edges e = new Edges();
        e.face();
        EdgesOfHouse.run(e);
        EdgesOfLanes.run(e);
        EdgesOfSales.run(e);
        EdgesOfHours.run(e);
        EdgesOfGoods.run(e);
        EdgesOfRefusals.run(e);
        EdgesOfSetup.run(e);
        EdgesOfTrade.run(e);
        EdgesOfTelling.run(e);
        e.end();
    }
}
