/** Promise 5: remove. */
public final class Promise05RemoveTest {
    public static void main(String[] args) {
        removesANode();
        withAllThatIsWithin();
        byRisingNumbers();
        risingNumbersInAFullQueue();
        moreFilesThanTheQueueHolds();
        refusesNodesOutOfRange();
        refusesWhatIsNotThere();
        bringsNothingBack();
        Check.end();
    }

    /** "Removes a node .. (files of which REMOVED is told): how many nodes." */
    private static void removesANode() {
        for (int node = 1; node <= 15; node++) {
            FileIndexer x = new FileIndexer();
            x.make(node, 0, false);
            x.work(1);
            Check.due("the file " + node, 1, x.remove(node));
            Check.dueText("its event", "3/" + node, Check.events(x));
            Check.due("nodes", 1, x.count(0));
            Check.due("files", 0, x.count(1));
            Check.due("the index still has it", 1, x.count(2));
            x.make(node, 0, true);
            Check.due("the empty folder " + node, 1, x.remove(node));
            Check.dueText("no event of it", "3/" + node, Check.events(x));
        }
    }

    /** "with all that is within it" */
    private static void withAllThatIsWithin() {
        FileIndexer x = new FileIndexer();
        x.make(9, 0, true);
        x.make(3, 9, true);
        x.make(12, 3, true);
        x.make(5, 12, false);
        x.make(14, 9, false);
        x.make(1, 0, false);
        x.make(2, 0, true);
        x.work(8);
        Check.due("an empty folder", 1, x.remove(2));
        Check.dueText("no event of a folder", "", Check.events(x));
        Check.due("a tree", 5, x.remove(9));
        Check.dueText("events", "3/5 3/14", Check.events(x));
        Check.due("nodes", 2, x.count(0));
        Check.due("files", 1, x.count(1));
        Check.due("the index still has them", 3, x.count(2));
        Check.due("a file", 1, x.remove(1));
        Check.dueText("events", "3/5 3/14 3/1", Check.events(x));
    }

    /** The number decides, not the depth, nor which one the call names. */
    private static void byRisingNumbers() {
        FileIndexer x = new FileIndexer();
        x.make(15, 0, true);
        x.make(14, 15, true);
        x.make(8, 15, false);
        x.make(1, 14, false);
        x.make(3, 15, false);
        x.make(2, 14, false);
        x.work(8);
        Check.due("all", 6, x.remove(15));
        Check.dueText("events", "3/1 3/2 3/3 3/8", Check.events(x));
    }

    /** The order decides whether a file that frees a place comes before one that needs a place. */
    private static void risingNumbersInAFullQueue() {
        FileIndexer first = fullQueue(1, 12);
        Check.due("all", 3, first.remove(13));
        Check.due("the known file comes first: LOST", 1, first.count(4));
        Check.due("no event", 0, first.count(3));
        FileIndexer last = fullQueue(12, 1);
        Check.due("all", 3, last.remove(13));
        Check.due("the unknown file comes first: not LOST", 0, last.count(4));
        Check.dueText("events", "1/2 1/3 1/4 1/5 1/6 1/7 1/8 3/12", Check.events(last));
    }

    private static FileIndexer fullQueue(int known, int unknown) {
        FileIndexer x = new FileIndexer();
        x.make(13, 0, true);
        x.make(known, 13, false);
        x.work(1);
        x.make(unknown, 13, false);
        for (int file = 2; file <= 8; file++) {
            x.make(file, 0, false);
        }
        Check.due("a full queue", 8, x.count(3));
        return x;
    }

    private static FileIndexer folderOf(int files) {
        FileIndexer x = new FileIndexer();
        x.make(15, 0, true);
        for (int file = 1; file <= files; file++) {
            x.make(file, 15, false);
            x.work(1);
        }
        return x;
    }

    private static void moreFilesThanTheQueueHolds() {
        FileIndexer eight = folderOf(8);
        Check.due("eight and their folder", 9, eight.remove(15));
        Check.dueText("events", "3/1 3/2 3/3 3/4 3/5 3/6 3/7 3/8", Check.events(eight));
        Check.due("not LOST", 0, eight.count(4));
        FileIndexer nine = folderOf(9);
        Check.due("nine and their folder", 10, nine.remove(15));
        Check.dueText("no events", "", Check.events(nine));
        Check.due("LOST", 1, nine.count(4));
        FileIndexer most = folderOf(14);
        Check.due("all nodes", 15, most.remove(15));
        Check.dueText("those behind the ninth are not kept", "", Check.events(most));
        Check.due("LOST", 1, most.count(4));
        Check.due("the root is left", 1, most.count(0));
        Check.due("no file is left", 0, most.count(1));
    }

    /** 1 is a folder with the file 2 in it, 3 was a folder with the file 4 in it. */
    private static FileIndexer start() {
        FileIndexer x = new FileIndexer();
        x.make(1, 0, true);
        x.make(2, 1, false);
        x.make(3, 0, true);
        x.make(4, 3, false);
        x.work(8);
        x.remove(3);
        return x;
    }

    /** "IllegalArgumentException: node not 1 .. 15." */
    private static void refusesNodesOutOfRange() {
        for (int node : new int[] {0, -1, 16, 17, -16, Integer.MIN_VALUE, Integer.MAX_VALUE}) {
            Check.refused(Promise05RemoveTest::start, "remove " + node, Check.ARGUMENT, x -> x.remove(node));
        }
        Check.due("the lowest", 2, start().remove(1));
    }

    /** "NoSuchElementException: it is not there." */
    private static void refusesWhatIsNotThere() {
        for (int node : new int[] {3, 4, 5, 15}) {
            Check.refused(Promise05RemoveTest::start, "remove " + node, Check.NO_SUCH, x -> x.remove(node));
        }
        FileIndexer x = start();
        x.remove(1);
        Check.thrown(x, "removed just now", Check.NO_SUCH, y -> y.remove(1));
        Check.thrown(x, "removed with its folder", Check.NO_SUCH, y -> y.remove(2));
    }

    private static void bringsNothingBack() {
        FileIndexer x = start();
        x.make(3, 0, true);
        Check.due("its file is gone for good", 1, x.remove(3));
        x.make(4, 0, true);
        x.make(3, 4, true);
        Check.due("both in another order", 2, x.remove(4));
    }
}
