/** Promise 15: count. */
public final class Promise15CountTest {
    public static void main(String[] args) {
        throughALife();
        theLowestAndTheHighest();
        countsReadsSoFar();
        refusesAnotherNumber();
        Check.end();
    }

    private static void counts(FileIndexer x, String when, int... want) {
        for (int what = 0; what <= 6; what++) {
            Check.due(when + ": count(" + what + ")", want[what], x.count(what));
        }
    }

    /** "Nodes that are there (0), files (1), files in the index (2), events (3), 1 if .. LOST else 0 (4), ..." */
    private static void throughALife() {
        FileIndexer x = new FileIndexer();
        counts(x, "new", 1, 0, 0, 0, 0, 0, 0);
        x.make(1, 0, true);
        x.make(2, 1, false);
        x.make(3, 1, false);
        counts(x, "made", 4, 2, 0, 2, 0, 0, 0);
        x.work(1);
        counts(x, "read", 4, 2, 1, 1, 0, 0, 1);
        x.type('a');
        x.type('b');
        counts(x, "typed", 4, 2, 1, 1, 0, 2, 1);
        x.work(1);
        x.write(2, 'a', 1);
        x.work(1);
        counts(x, "read again", 4, 2, 2, 0, 0, 2, 3);
        x.remove(2);
        counts(x, "removed", 3, 1, 2, 1, 0, 2, 3);
        x.work(1);
        counts(x, "left the index", 3, 1, 1, 0, 0, 2, 3);
        for (int node = 4; node <= 12; node++) {
            x.make(node, 0, false);
        }
        counts(x, "LOST", 12, 10, 1, 0, 1, 2, 3);
        x.rescan();
        counts(x, "rescanned", 12, 10, 10, 0, 0, 2, 13);
        x.search(0);
        counts(x, "searched", 12, 10, 10, 0, 0, 0, 13);
    }

    private static void theLowestAndTheHighest() {
        FileIndexer x = new FileIndexer();
        for (int file = 1; file <= 8; file++) {
            x.make(file, 0, false);
        }
        counts(x, "eight events", 9, 8, 0, 8, 0, 0, 0);
        x.make(9, 0, true);
        counts(x, "a folder is no event", 10, 8, 0, 8, 0, 0, 0);
        x.make(10, 0, false);
        counts(x, "LOST", 11, 9, 0, 0, 1, 0, 0);
        x.remove(9);
        for (int file = 11; file <= 15; file++) {
            x.make(file, 0, false);
        }
        x.make(9, 0, false);
        Check.type(x, "a".repeat(40));
        x.rescan();
        counts(x, "all", 16, 15, 15, 0, 0, 40, 15);
        for (int file = 1; file <= 15; file++) {
            x.remove(file);
        }
        counts(x, "none, and LOST", 1, 0, 15, 0, 1, 40, 15);
        x.rescan();
        Check.thrown(x, "a fault", Check.ARGUMENT, y -> y.search(0));
        counts(x, "nothing but the root", 1, 0, 0, 0, 0, 0, 15);
    }

    /** "times that a file was READ so far (6)" */
    private static void countsReadsSoFar() {
        FileIndexer x = new FileIndexer();
        x.make(1, 0, false);
        x.make(2, 0, false);
        x.write(1, 'a', 1);
        Check.due("none yet", 0, x.count(6));
        x.work(8);
        Check.due("once for an event", 2, x.count(6));
        x.work(8);
        Check.due("none without an event", 2, x.count(6));
        x.remove(1);
        x.work(8);
        Check.due("not for a removal", 2, x.count(6));
        x.rescan();
        Check.due("once for each file that is there", 3, x.count(6));
        x.make(1, 0, false);
        x.remove(1);
        x.work(8);
        Check.due("not for one that came and went", 3, x.count(6));
        Check.finds(x, "-a", "2:0");
        Check.due("not for a search", 3, x.count(6));
        x.remove(2);
        x.rescan();
        Check.due("it never falls", 3, x.count(6));
    }

    /** "IllegalArgumentException: another number." */
    private static void refusesAnotherNumber() {
        for (int what : new int[] {-1, 7, 8, 16, -7, Integer.MIN_VALUE, Integer.MAX_VALUE}) {
            Check.refused(FileIndexer::new, "count " + what, Check.ARGUMENT, y -> y.count(what));
        }
    }
}
