/** Promise 7: work. */
public final class Promise07WorkTest {
    public static void main(String[] args) {
        takesUpToN();
        takesFromTheFront();
        readsCreatedAndChangedAsItIs();
        removedLeavesTheIndex();
        refusesNumbersOutOfRange();
        refusesWhileLost();
        Check.end();
    }

    private static FileIndexer waiting(int events) {
        FileIndexer x = new FileIndexer();
        for (int file = 1; file <= events; file++) {
            x.make(file, 0, false);
        }
        return x;
    }

    /** "Takes up to n (1 .. 8) events .. Answers how many were taken." */
    private static void takesUpToN() {
        for (int events = 0; events <= 8; events++) {
            for (int n = 1; n <= 8; n++) {
                FileIndexer x = waiting(events);
                int due = Math.min(events, n);
                Check.due("work " + n + " of " + events, due, x.work(n));
                Check.due("events left", events - due, x.count(3));
                Check.due("files in the index", due, x.count(2));
                Check.due("reads", due, x.count(6));
            }
        }
    }

    /** "from the front of the queue" */
    private static void takesFromTheFront() {
        FileIndexer x = new FileIndexer();
        for (int file = 15; file >= 8; file--) {
            x.make(file, 0, false);
        }
        Check.due("one", 1, x.work(1));
        Check.dueText("the others wait", "1/14 1/13 1/12 1/11 1/10 1/9 1/8", Check.events(x));
        Check.due("15 was read", 0, x.words(15));
        Check.due("14 was not", -1, Check.wordsOrNone(x, 14));
        Check.due("three", 3, x.work(3));
        Check.dueText("the others wait", "1/11 1/10 1/9 1/8", Check.events(x));
        Check.due("12 was read", 0, x.words(12));
        Check.due("11 was not", -1, Check.wordsOrNone(x, 11));
        Check.due("the rest", 4, x.work(8));
        Check.due("none is left", 0, x.work(8));
    }

    /** "of CREATED and CHANGED the file is READ as it is" */
    private static void readsCreatedAndChangedAsItIs() {
        FileIndexer x = new FileIndexer();
        x.make(1, 0, false);
        Check.write(x, 1, "old");
        x.cut(1, 0);
        Check.write(x, 1, "new one");
        Check.due("CREATED", 1, x.work(8));
        Check.due("one read", 1, x.count(6));
        Check.finds(x, "new", "1:1");
        Check.finds(x, "old", "");
        Check.write(x, 1, " more");
        x.cut(1, 3);
        Check.due("CHANGED", 1, x.work(8));
        Check.due("one read more", 2, x.count(6));
        Check.due("words", 1, x.words(1));
        x.remove(1);
        x.make(1, 0, false);
        Check.write(x, 1, "third");
        Check.finds(x, "new", "1:1");
        Check.due("REMOVED and CREATED", 1, x.work(1));
        Check.finds(x, "new", "");
        Check.finds(x, "third", "1:1");
    }

    /** "of REMOVED it leaves the index" */
    private static void removedLeavesTheIndex() {
        FileIndexer x = new FileIndexer();
        x.make(1, 0, false);
        x.make(2, 0, false);
        x.work(8);
        x.remove(1);
        Check.due("still in the index", 0, x.words(1));
        x.make(1, 0, true);
        Check.due("removed, though a folder has its number", 1, x.work(1));
        Check.due("not in the index", -1, Check.wordsOrNone(x, 1));
        Check.due("the other stays", 1, x.count(2));
        Check.due("a removal is no read", 2, x.count(6));
    }

    /** The events 1/3 2/1 3/2, and results of a search. */
    private static FileIndexer start() {
        FileIndexer x = waiting(2);
        x.write(2, 'a', 1);
        x.work(8);
        x.make(3, 0, false);
        x.write(1, 'b', 1);
        x.remove(2);
        Check.search(x, "a", 0);
        return x;
    }

    private static FileIndexer lost() {
        FileIndexer x = waiting(1);
        x.write(1, 'a', 1);
        x.work(1);
        for (int file = 2; file <= 10; file++) {
            x.make(file, 0, false);
        }
        return x;
    }

    /** "IllegalArgumentException: out of range." It is tested before LOST is. */
    private static void refusesNumbersOutOfRange() {
        for (int n : new int[] {0, -1, 9, 10, -8, Integer.MIN_VALUE, Integer.MAX_VALUE}) {
            Check.refused(FileIndexer::new, "work of none " + n, Check.ARGUMENT, x -> x.work(n));
            Check.refused(Promise07WorkTest::start, "work " + n, Check.ARGUMENT, x -> x.work(n));
            Check.refused(() -> waiting(8), "work of 8 " + n, Check.ARGUMENT, x -> x.work(n));
            Check.refused(Promise07WorkTest::lost, "work LOST " + n, Check.ARGUMENT, x -> x.work(n));
        }
    }

    /** "IllegalStateException: the index is LOST." */
    private static void refusesWhileLost() {
        for (int each = 1; each <= 8; each++) {
            int n = each;
            Check.refused(Promise07WorkTest::lost, "work while LOST " + n, Check.STATE, x -> x.work(n));
        }
        FileIndexer x = lost();
        x.rescan();
        Check.due("work again", 0, x.work(1));
        x.write(1, 'a', 1);
        Check.due("of an event", 1, x.work(1));
    }
}
