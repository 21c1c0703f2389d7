/** At least one test for each promise of ../shared/DOC.md. */
public final class PromisesTest {
    private static int wrong = 0;

    public static void main(String[] args) {
        TubeChain x = new TubeChain();
        if (x.count(0) != 0) wrong++;
        System.exit(wrong == 0 ? 0 : 1);
    }
}
