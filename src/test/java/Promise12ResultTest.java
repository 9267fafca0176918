/** Promise 12: result. */
public final class Promise12ResultTest {
    public static void main(String[] args) {
        numberAndScore();
        allFifteen();
        refusesWhereThereIsNone();
        refusesAnotherWhat();
        staysUntilTheNextSearch();
        Check.end();
    }

    private static FileIndexer found() {
        FileIndexer x = TermsQueryTest.of("a", "b", "#a b;a");
        Check.search(x, "a", 0);
        return x;
    }

    /** "Of the result at the place k (from 0): its number (0), its score (1)." */
    private static void numberAndScore() {
        FileIndexer x = found();
        Check.due("first number", 3, x.result(0, 0));
        Check.due("first score", 4, x.result(0, 1));
        Check.due("second number", 1, x.result(1, 0));
        Check.due("second score", 1, x.result(1, 1));
        Check.due("asked again", 3, x.result(0, 0));
    }

    private static FileIndexer fifteen() {
        FileIndexer x = new FileIndexer();
        for (int file = 1; file <= 15; file++) {
            x.make(file, 0, false);
        }
        x.rescan();
        Check.type(x, "-a");
        Check.due("all", 15, x.search(0));
        return x;
    }

    private static void allFifteen() {
        FileIndexer x = fifteen();
        for (int k = 0; k <= 14; k++) {
            Check.due("number", k + 1, x.result(k, 0));
            Check.due("score", 0, x.result(k, 1));
        }
        Check.refused(Promise12ResultTest::fifteen, "the 16th", Check.NO_SUCH, y -> y.result(15, 0));
        Check.refused(Promise12ResultTest::fifteen, "the 17th", Check.NO_SUCH, y -> y.result(16, 1));
    }

    /** "NoSuchElementException: there is none." It is tested before what is. */
    private static void refusesWhereThereIsNone() {
        for (int k : new int[] {2, 3, -1, 15, 16, Integer.MIN_VALUE, Integer.MAX_VALUE}) {
            for (int what : new int[] {-1, 0, 1, 2}) {
                Check.refused(Promise12ResultTest::found, "result " + k + " " + what, Check.NO_SUCH,
                    x -> x.result(k, what));
            }
        }
        for (int what : new int[] {-1, 0, 1, 2}) {
            Check.refused(FileIndexer::new, "before a search " + what, Check.NO_SUCH, x -> x.result(0, what));
            Check.refused(Promise12ResultTest::foundNone, "behind no result " + what, Check.NO_SUCH,
                x -> x.result(0, what));
        }
    }

    private static FileIndexer foundNone() {
        FileIndexer x = found();
        Check.search(x, "z", 0);
        return x;
    }

    /** "IllegalArgumentException: another what." */
    private static void refusesAnotherWhat() {
        for (int what : new int[] {-1, 2, 3, 16, Integer.MIN_VALUE, Integer.MAX_VALUE}) {
            for (int each = 0; each <= 1; each++) {
                int k = each;
                Check.refused(Promise12ResultTest::found, "result " + k + " " + what, Check.ARGUMENT,
                    x -> x.result(k, what));
            }
        }
    }

    private static void staysUntilTheNextSearch() {
        FileIndexer x = found();
        x.remove(3);
        x.rescan();
        Check.dueText("as it was found", "3:4 1:1", Check.results(x));
        Check.type(x, "b");
        Check.thrown(x, "no folder", Check.NO_SUCH, y -> y.search(9));
        Check.dueText("no search without folder", "3:4 1:1", Check.results(x));
        Check.due("search", 1, x.search(0));
        Check.dueText("the next", "2:1", Check.results(x));
        Check.thrown(x, "an empty query", Check.ARGUMENT, y -> y.search(0));
        Check.dueText("none", "", Check.results(x));
    }
}
