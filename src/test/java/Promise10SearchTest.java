/** Promise 10: search. What queries mean stands in the terms and is tested there. */
public final class Promise10SearchTest {
    public static void main(String[] args) {
        answersHowMany();
        amongAllFilesOfTheIndex();
        thereOrNot();
        amongThoseWithinAFolder();
        whoseNumbersAreNodesWithinItThen();
        theQueryIsEmptyThen();
        refusesWhatIsNoFolder();
        refusesAFault();
        searchesWhileLost();
        Check.end();
    }

    /** "Finds the RESULTS of the query: .. how many there are." */
    private static void answersHowMany() {
        FileIndexer none = new FileIndexer();
        none.type('a');
        Check.due("an empty index", 0, none.search(0));
        for (int files = 1; files <= 15; files++) {
            FileIndexer x = new FileIndexer();
            for (int file = 1; file <= files; file++) {
                x.make(file, 0, false);
                x.write(file, 'a', 1);
            }
            x.rescan();
            x.type('a');
            Check.due("all files", files, x.search(0));
            x.type('b');
            Check.due("none", 0, x.search(0));
        }
    }

    /** "for the root among all files of the index" */
    private static void amongAllFilesOfTheIndex() {
        FileIndexer x = tree();
        Check.dueText("in folders too", "3:1 4:1 5:1", Check.search(x, "a", 0));
        x.make(6, 0, false);
        x.write(6, 'a', 1);
        Check.dueText("not one that was never read", "3:1 4:1 5:1", Check.search(x, "a", 0));
        x.work(1);
        Check.dueText("read now", "3:1 4:1 5:1 6:1", Check.search(x, "a", 0));
    }

    /** "there or not" */
    private static void thereOrNot() {
        FileIndexer x = tree();
        x.remove(1);
        Check.dueText("removed with their folder", "3:1 4:1 5:1", Check.search(x, "a", 0));
        x.work(1);
        Check.dueText("one has left the index", "4:1 5:1", Check.search(x, "a", 0));
        x.rescan();
        Check.dueText("all have but one", "5:1", Check.search(x, "a", 0));
    }

    /** The folder 1 has the folder 2 and the file 4, 2 the file 3; 5 is a file in the root. All have a. */
    private static FileIndexer tree() {
        FileIndexer x = new FileIndexer();
        x.make(1, 0, true);
        x.make(2, 1, true);
        x.make(3, 2, false);
        x.make(4, 1, false);
        x.make(5, 0, false);
        x.write(3, 'a', 1);
        x.write(4, 'a', 1);
        x.write(5, 'a', 1);
        x.work(8);
        return x;
    }

    /** "for another folder among those whose numbers are nodes within it" */
    private static void amongThoseWithinAFolder() {
        FileIndexer x = tree();
        Check.dueText("in 1", "3:1 4:1", Check.search(x, "a", 1));
        Check.dueText("in 2", "3:1", Check.search(x, "a", 2));
        Check.dueText("by what lacks", "3:0 4:0", Check.search(x, "-b", 1));
        x.make(15, 0, true);
        Check.dueText("in an empty folder", "", Check.search(x, "a", 15));
        Check.dueText("in an empty folder, by what lacks", "", Check.search(x, "-b", 15));
    }

    /** "then": the tree counts as it is at the search, the words as they were read */
    private static void whoseNumbersAreNodesWithinItThen() {
        FileIndexer x = tree();
        x.move(5, 2);
        x.move(4, 0);
        Check.dueText("in 1 after moves", "3:1 5:1", Check.search(x, "a", 1));
        x.remove(3);
        Check.dueText("a removed file is not in a folder", "5:1", Check.search(x, "a", 1));
        Check.dueText("but in the root", "3:1 4:1 5:1", Check.search(x, "a", 0));
        x.make(3, 1, false);
        x.write(3, 'b', 1);
        Check.dueText("made again elsewhere, with its old words", "3:1 5:1", Check.search(x, "a", 1));
        Check.dueText("no longer where it was", "5:1", Check.search(x, "a", 2));
        x.remove(3);
        x.make(3, 0, true);
        x.move(5, 3);
        Check.dueText("a folder is not within itself", "5:1", Check.search(x, "a", 3));
        x.move(3, 2);
        Check.dueText("its number counts, be it a folder", "3:1 5:1", Check.search(x, "a", 2));
    }

    /** "The query is empty then in any case" */
    private static void theQueryIsEmptyThen() {
        FileIndexer x = found();
        Check.thrown(x, "a fault", Check.ARGUMENT, y -> y.search(0));
        Check.due("behind a fault", 0, x.count(5));
        x.type('b');
        Check.due("found", 1, x.search(0));
        Check.due("behind a result", 0, x.count(5));
        x.type('z');
        Check.due("not found", 0, x.search(0));
        Check.due("behind no result", 0, x.count(5));
        Check.thrown(x, "an empty query", Check.ARGUMENT, y -> y.search(0));
        Check.due("its fault", 0, x.fault());
        Check.type(x, " ".repeat(39) + "b");
        Check.due("a full query", 1, x.search(0));
        Check.due("is empty then", 1, x.type('b'));
    }

    /** The results of a search for a, and the query b| typed; 1 and 2 are files, 5 was a folder, 6 is one. */
    private static FileIndexer found() {
        FileIndexer x = TermsQueryTest.of("a b", "a");
        x.make(5, 0, true);
        x.remove(5);
        x.make(6, 0, true);
        Check.search(x, "a", 0);
        Check.type(x, "b|");
        return x;
    }

    private static FileIndexer faulty() {
        FileIndexer x = found();
        Check.thrown(x, "the fault at the end", Check.ARGUMENT, y -> y.search(0));
        x.type('a');
        return x;
    }

    /** "NoSuchElementException: no such folder (and the query stays)." It is tested before the query is. */
    private static void refusesWhatIsNoFolder() {
        for (int folder : new int[] {-1, 1, 2, 3, 5, 15, 16, 17, Integer.MIN_VALUE, Integer.MAX_VALUE}) {
            Check.refused(Promise10SearchTest::found, "search in " + folder, Check.NO_SUCH,
                x -> x.search(folder));
            Check.refused(Promise10SearchTest::faulty, "search behind a fault in " + folder, Check.NO_SUCH,
                x -> x.search(folder));
            Check.refused(FileIndexer::new, "search for nothing in " + folder, Check.NO_SUCH,
                x -> x.search(folder));
        }
        FileIndexer x = TermsQueryTest.of("ab");
        Check.type(x, "a");
        Check.thrown(x, "search in a file", Check.NO_SUCH, y -> y.search(1));
        Check.due("the query stays", 1, x.count(5));
        Check.finds(x, "b", "1:1");
    }

    /** "IllegalArgumentException: the query has a fault; there are no results then." */
    private static void refusesAFault() {
        for (int each : new int[] {0, 6}) {
            int folder = each;
            FileIndexer x = found();
            Check.dueText("results before", "1:1 2:1", Check.results(x));
            Check.thrown(x, "a fault in " + folder, Check.ARGUMENT, y -> y.search(folder));
            Check.dueText("no results", "", Check.results(x));
            Check.thrown(x, "no result", Check.NO_SUCH, y -> y.result(0, 0));
            Check.due("the fault", 2, x.fault());
            Check.due("the tree stays", 4, x.count(0));
            Check.due("the index stays", 2, x.count(2));
        }
    }

    private static void searchesWhileLost() {
        FileIndexer x = new FileIndexer();
        x.make(1, 0, false);
        x.write(1, 'a', 1);
        x.work(1);
        for (int file = 2; file <= 10; file++) {
            x.make(file, 0, false);
        }
        Check.due("LOST", 1, x.count(4));
        Check.finds(x, "a", "1:1");
        x.remove(1);
        Check.finds(x, "a", "1:1");
        x.rescan();
        Check.finds(x, "a", "");
    }
}
