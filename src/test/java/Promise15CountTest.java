/** Promise 15: count. */
public final class Promise15CountTest {
    public static void main(String[] args) {
        FileIndexer x = new FileIndexer();
        counts(x, "new", 1, 0, 0, 0, 0, 0, 0);
        x.make(1, 0, true);
        x.make(2, 1, false);
        x.make(3, 1, false);
        counts(x, "made", 4, 2, 0, 2, 0, 0, 0);
        x.work(1);
        counts(x, "read", 4, 2, 1, 1, 0, 0, 1);
        x.type('a');
        x.type('b');
        counts(x, "typed", 4, 2, 1, 1, 0, 2, 1);
        x.work(1);
        x.write(2, 'a', 1);
        x.work(1);
        counts(x, "read again", 4, 2, 2, 0, 0, 2, 3);
        x.remove(2);
        counts(x, "removed", 3, 1, 2, 1, 0, 2, 3);
        x.work(1);
        counts(x, "left the index", 3, 1, 1, 0, 0, 2, 3);
        for (int node = 4; node <= 12; node++) {
            x.make(node, 0, false);
        }
        counts(x, "LOST", 12, 10, 1, 0, 1, 2, 3);
        x.rescan();
        counts(x, "rescanned", 12, 10, 10, 0, 0, 2, 13);
        x.search(0);
        counts(x, "searched", 12, 10, 10, 0, 0, 0, 13);
        for (int what : new int[] {-1, 7, Integer.MIN_VALUE, Integer.MAX_VALUE}) {
            Check.refused(FileIndexer::new, "count " + what, Check.ARGUMENT, y -> y.count(what));
        }
        Check.end();
    }

    private static void counts(FileIndexer x, String when, int... want) {
        for (int what = 0; what <= 6; what++) {
            Check.due(when + ": count(" + what + ")", want[what], x.count(what));
        }
    }
}
