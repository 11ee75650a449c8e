import java.io.IOException;

/**
 * All promises, sentence by sentence: each test names the promise and the words of the document that
 * it holds to; words that no test holds to are told as failures.
 */
public final class EdgesTest {
    public static void main(String[] args) throws IOException {
        Doc.open();
        EdgesOfTexts.all();
        EdgesOfLife.all();
        EdgesOfReckoning.all();
        Refusals.all();
        Doc.close();
        Kit.finish();
    }
}
