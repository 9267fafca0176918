/** Promise 11: fault. Where a query's fault is stands in the terms and is tested there. */
public final class Promise11FaultTest {
    public static void main(String[] args) {
        beforeTheFirstOne();
        ofTheLastSearchThatHadAFolder();
        ifItHadNone();
        ofAnySearchedFolder();
        changesNothing();
        Check.end();
    }

    private static void searchesFor(FileIndexer x, String query) {
        Check.type(x, query);
        Check.thrown(x, "the fault of " + query, Check.ARGUMENT, y -> y.search(0));
    }

    /** "-1 .. before the first one" */
    private static void beforeTheFirstOne() {
        FileIndexer x = new FileIndexer();
        Check.due("before the first", -1, x.fault());
        Check.type(x, "ab1");
        Check.due("typed only", -1, x.fault());
        Check.thrown(x, "no folder", Check.NO_SUCH, y -> y.search(3));
        Check.due("before the first that had a folder", -1, x.fault());
    }

    /** "The place of the fault of the last search that had a folder" */
    private static void ofTheLastSearchThatHadAFolder() {
        FileIndexer x = new FileIndexer();
        searchesFor(x, "");
        Check.due("the lowest place", 0, x.fault());
        searchesFor(x, "ab1");
        Check.due("the place", 2, x.fault());
        searchesFor(x, " ".repeat(40));
        Check.due("the highest place", 40, x.fault());
        Check.type(x, "1");
        Check.due("typed only", 40, x.fault());
        Check.thrown(x, "no folder", Check.NO_SUCH, y -> y.search(3));
        Check.due("still the last that had one", 40, x.fault());
        searchesFor(x, "");
        Check.due("the query had stayed", 0, x.fault());
    }

    /** "-1 if it had none" */
    private static void ifItHadNone() {
        FileIndexer x = TermsQueryTest.of("a");
        searchesFor(x, "a|");
        Check.due("a fault", 2, x.fault());
        x.type('b');
        Check.due("no result", 0, x.search(0));
        Check.due("but no fault", -1, x.fault());
        searchesFor(x, "a|");
        x.type('a');
        Check.due("a result", 1, x.search(0));
        Check.due("and no fault", -1, x.fault());
        Check.type(x, "|");
        Check.thrown(x, "no folder", Check.NO_SUCH, y -> y.search(1));
        Check.due("still no fault", -1, x.fault());
    }

    private static void ofAnySearchedFolder() {
        FileIndexer x = new FileIndexer();
        x.make(15, 0, true);
        Check.type(x, "a-");
        Check.thrown(x, "in a folder", Check.ARGUMENT, y -> y.search(15));
        Check.due("its fault", 1, x.fault());
        x.type('a');
        Check.due("in a folder", 0, x.search(15));
        Check.due("no fault", -1, x.fault());
        searchesFor(x, "|");
        x.remove(15);
        x.rescan();
        x.work(1);
        Check.due("other calls leave it", 0, x.fault());
    }

    private static void changesNothing() {
        FileIndexer x = TermsQueryTest.of("a");
        Check.search(x, "a", 0);
        x.type('b');
        String before = Check.seen(x);
        Check.due("asked", -1, x.fault());
        Check.due("asked again", -1, x.fault());
        Check.dueText("as before", before, Check.seen(x));
    }
}
