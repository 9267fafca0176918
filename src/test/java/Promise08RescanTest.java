/** Promise 8: rescan. */
public final class Promise08RescanTest {
    public static void main(String[] args) {
        answersHowMany();
        readsAllFilesThatAreThere();
        hasJustThese();
        isNotLost();
        emptiesTheQueue();
        leavesTheRest();
        Check.end();
    }

    /** "Answers how many." */
    private static void answersHowMany() {
        Check.due("nothing there", 0, new FileIndexer().rescan());
        for (int files = 1; files <= 15; files++) {
            FileIndexer x = new FileIndexer();
            for (int file = 1; file <= files; file++) {
                x.make(file, 0, false);
            }
            Check.due("all files", files, x.rescan());
            Check.due("in the index", files, x.count(2));
            Check.due("reads", files, x.count(6));
            Check.due("again", files, x.rescan());
            Check.due("each is read anew", 2 * files, x.count(6));
        }
        FileIndexer folders = new FileIndexer();
        for (int node = 1; node <= 15; node++) {
            folders.make(node, node - 1, true);
        }
        Check.due("folders are not read", 0, folders.rescan());
    }

    /** "Reads all files that are there" */
    private static void readsAllFilesThatAreThere() {
        FileIndexer x = new FileIndexer();
        x.make(1, 0, true);
        x.make(15, 1, false);
        x.make(2, 0, false);
        x.make(3, 0, false);
        x.work(1);
        Check.write(x, 15, "deep word");
        Check.write(x, 3, "three");
        Check.due("three files", 3, x.rescan());
        Check.due("read again, in its folder", 2, x.words(15));
        Check.due("read for the first time", 1, x.words(3));
        Check.due("read when empty", 0, x.words(2));
        Check.due("a folder is not read", -1, Check.wordsOrNone(x, 1));
        x.cut(15, 4);
        x.rescan();
        Check.finds(x, "deep", "15:1");
        Check.finds(x, "word", "");
    }

    /** "the index has just these" */
    private static void hasJustThese() {
        FileIndexer x = new FileIndexer();
        for (int file = 1; file <= 4; file++) {
            x.make(file, 0, false);
            Check.write(x, file, "word");
        }
        x.work(8);
        x.remove(1);
        x.remove(2);
        x.make(2, 0, true);
        x.remove(3);
        x.make(3, 0, false);
        Check.due("two are there", 2, x.rescan());
        Check.due("files of the index", 2, x.count(2));
        Check.due("removed", -1, Check.wordsOrNone(x, 1));
        Check.due("a folder that was a file", -1, Check.wordsOrNone(x, 2));
        Check.due("made again", 0, x.words(3));
        Check.finds(x, "word", "4:1");
        x.remove(3);
        x.remove(4);
        Check.due("none is there", 0, x.rescan());
        Check.due("the index is empty", 0, x.count(2));
        Check.finds(x, "-a", "");
    }

    /** "and is not LOST" */
    private static void isNotLost() {
        FileIndexer x = new FileIndexer();
        Check.due("none", 0, x.rescan());
        Check.due("never LOST", 0, x.count(4));
        for (int file = 1; file <= 15; file++) {
            x.make(file, 0, false);
        }
        Check.due("LOST", 1, x.count(4));
        Check.due("all", 15, x.rescan());
        Check.due("not LOST", 0, x.count(4));
        x.write(7, 'a', 1);
        Check.dueText("events are kept again", "2/7", Check.events(x));
        Check.due("and worked on", 1, x.work(8));
    }

    /** "the queue is empty" */
    private static void emptiesTheQueue() {
        for (int events = 0; events <= 8; events++) {
            FileIndexer x = new FileIndexer();
            for (int file = 1; file <= events; file++) {
                x.make(file, 0, false);
            }
            x.rescan();
            Check.due("events", 0, x.count(3));
            Check.thrown(x, "event", Check.NO_SUCH, y -> y.event(0));
            Check.due("nothing to do", 0, x.work(8));
            x.make(15, 0, false);
            Check.dueText("the next is the first", "1/15", Check.events(x));
        }
        FileIndexer x = new FileIndexer();
        x.make(1, 0, false);
        x.rescan();
        x.remove(1);
        Check.dueText("not put together with one that went", "3/1", Check.events(x));
    }

    private static void leavesTheRest() {
        FileIndexer x = TermsQueryTest.of("a", "b");
        Check.search(x, "a", 0);
        x.type('b');
        x.write(1, 'c', 1);
        x.rescan();
        Check.dueText("results", "1:1", Check.results(x));
        Check.due("the query", 1, x.count(5));
        Check.due("nodes", 3, x.count(0));
        Check.due("its text", 1, x.search(0));
        Check.due("found by it", 2, x.result(0, 0));
    }
}
