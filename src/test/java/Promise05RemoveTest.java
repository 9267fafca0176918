/** Promise 5: remove. */
public final class Promise05RemoveTest {
    public static void main(String[] args) {
        removesWhatIsWithin();
        goesByRisingNumbers();
        refusesInOrder();
        bringsNothingBack();
        Check.end();
    }

    private static void removesWhatIsWithin() {
        FileIndexer x = new FileIndexer();
        x.make(9, 0, true);
        x.make(3, 9, true);
        x.make(12, 3, true);
        x.make(5, 12, false);
        x.make(14, 9, false);
        x.make(1, 0, false);
        x.make(2, 0, true);
        x.work(8);
        Check.due("an empty folder", 1, x.remove(2));
        Check.dueText("no event of a folder", "", Check.events(x));
        Check.due("a tree", 5, x.remove(9));
        Check.dueText("events", "3/5 3/14", Check.events(x));
        Check.due("nodes", 2, x.count(0));
        Check.due("files", 1, x.count(1));
        Check.due("the index still has them", 3, x.count(2));
        Check.due("a file", 1, x.remove(1));
        Check.dueText("events", "3/5 3/14 3/1", Check.events(x));
    }

    // The number decides, not the depth. Where the queue is full it also decides whether a file that
    // frees a place in it comes before one that needs a place.
    private static void goesByRisingNumbers() {
        FileIndexer x = new FileIndexer();
        x.make(15, 0, true);
        x.make(14, 15, true);
        x.make(8, 15, false);
        x.make(1, 14, false);
        x.work(8);
        x.remove(15);
        Check.dueText("events", "3/1 3/8", Check.events(x));

        FileIndexer first = fullQueue(1, 12);
        first.remove(13);
        Check.due("the known file comes first: LOST", 1, first.count(4));
        FileIndexer last = fullQueue(12, 1);
        last.remove(13);
        Check.due("the unknown file comes first: not LOST", 0, last.count(4));
        Check.dueText("events", "1/2 1/3 1/4 1/5 1/6 1/7 1/8 3/12", Check.events(last));
    }

    private static FileIndexer fullQueue(int known, int unknown) {
        FileIndexer x = new FileIndexer();
        x.make(13, 0, true);
        x.make(known, 13, false);
        x.work(1);
        x.make(unknown, 13, false);
        for (int file = 2; file <= 8; file++) {
            x.make(file, 0, false);
        }
        Check.due("a full queue", 8, x.count(3));
        return x;
    }

    /** 1 is a folder with the file 2 in it, 3 was a folder with the file 4 in it. */
    private static FileIndexer start() {
        FileIndexer x = new FileIndexer();
        x.make(1, 0, true);
        x.make(2, 1, false);
        x.make(3, 0, true);
        x.make(4, 3, false);
        x.work(8);
        x.remove(3);
        return x;
    }

    private static void refusesInOrder() {
        for (int node : new int[] {0, -1, 16, Integer.MIN_VALUE, Integer.MAX_VALUE}) {
            Check.refused(Promise05RemoveTest::start, "remove " + node, Check.ARGUMENT, x -> x.remove(node));
        }
        for (int node : new int[] {3, 4, 5, 15}) {
            Check.refused(Promise05RemoveTest::start, "remove " + node, Check.NO_SUCH, x -> x.remove(node));
        }
    }

    private static void bringsNothingBack() {
        FileIndexer x = start();
        x.make(3, 0, true);
        Check.due("its file is gone for good", 1, x.remove(3));
    }
}
