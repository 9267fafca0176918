/** Promise 12: result. */
public final class Promise12ResultTest {
    public static void main(String[] args) {
        answers();
        refusesInOrder();
        staysUntilTheNextSearch();
        Check.end();
    }

    private static FileIndexer found() {
        FileIndexer x = Promise10SearchTest.of("a", "b", "#a b;a");
        Check.search(x, "a", 0);
        return x;
    }

    private static void answers() {
        FileIndexer x = found();
        Check.due("first number", 3, x.result(0, 0));
        Check.due("first score", 4, x.result(0, 1));
        Check.due("second number", 1, x.result(1, 0));
        Check.due("second score", 1, x.result(1, 1));
    }

    private static void refusesInOrder() {
        for (int k : new int[] {2, -1, 15, 16, Integer.MIN_VALUE, Integer.MAX_VALUE}) {
            for (int what : new int[] {-1, 0, 1, 2}) {
                Check.refused(Promise12ResultTest::found, "result " + k + " " + what, Check.NO_SUCH,
                    x -> x.result(k, what));
            }
        }
        for (int what : new int[] {-1, 2, Integer.MIN_VALUE, Integer.MAX_VALUE}) {
            Check.refused(Promise12ResultTest::found, "what " + what, Check.ARGUMENT, x -> x.result(0, what));
        }
        Check.refused(FileIndexer::new, "before a search", Check.NO_SUCH, x -> x.result(0, 0));
    }

    private static void staysUntilTheNextSearch() {
        FileIndexer x = found();
        x.remove(3);
        x.rescan();
        Check.dueText("as it was found", "3:4 1:1", Check.results(x));
        Check.type(x, "b");
        Check.thrown(x, "no folder", Check.NO_SUCH, y -> y.search(9));
        Check.dueText("no search without folder", "3:4 1:1", Check.results(x));
        Check.due("search", 1, x.search(0));
        Check.dueText("the next", "2:1", Check.results(x));
        Check.thrown(x, "an empty query", Check.ARGUMENT, y -> y.search(0));
        Check.dueText("none", "", Check.results(x));
    }
}
