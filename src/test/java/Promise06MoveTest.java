/** Promise 6: move. */
public final class Promise06MoveTest {
    public static void main(String[] args) {
        movesWithAllWithin();
        refusesInOrder();
        deepestChain();
        Check.end();
    }

    private static void movesWithAllWithin() {
        FileIndexer x = new FileIndexer();
        x.make(1, 0, true);
        x.make(2, 0, true);
        x.make(3, 1, true);
        x.make(4, 3, false);
        x.work(8);
        Check.due("to where it is", 0, x.move(3, 1));
        Check.due("to another", 1, x.move(3, 2));
        Check.dueText("no event", "", Check.events(x));
        Check.due("again", 0, x.move(3, 2));
        Check.due("a file", 1, x.move(4, 0));
        Check.due("back", 1, x.move(4, 3));
        Check.due("the old folder is empty", 1, x.remove(1));
        Check.due("the new one has all", 3, x.remove(2));
    }

    /** The folders 1, 2 and 3, each within the one before, and the file 4 in the last; 5 was a folder. */
    private static FileIndexer start() {
        FileIndexer x = new FileIndexer();
        x.make(1, 0, true);
        x.make(2, 1, true);
        x.make(3, 2, true);
        x.make(4, 3, false);
        x.make(5, 0, true);
        x.remove(5);
        return x;
    }

    private static void refused(String call, Class<?> want, int node, int parent) {
        Check.refused(Promise06MoveTest::start, call, want, x -> x.move(node, parent));
    }

    private static void refusesInOrder() {
        for (int node : new int[] {0, -1, 16, Integer.MIN_VALUE, Integer.MAX_VALUE}) {
            refused("move " + node, Check.ARGUMENT, node, 0);
            refused("move to nowhere " + node, Check.ARGUMENT, node, 9);
        }
        for (int parent : new int[] {-1, 16, Integer.MIN_VALUE, Integer.MAX_VALUE}) {
            refused("move to " + parent, Check.ARGUMENT, 1, parent);
            refused("move what is not there to " + parent, Check.ARGUMENT, 9, parent);
        }
        refused("move what is not there", Check.NO_SUCH, 5, 0);
        refused("move it into itself", Check.NO_SUCH, 5, 5);
        refused("move to what is not there", Check.NO_SUCH, 1, 5);
        refused("move to a file", Check.NO_SUCH, 2, 4);
        refused("move a file into itself", Check.NO_SUCH, 4, 4);
        refused("move a folder into itself", Check.STATE, 1, 1);
        refused("move to its child", Check.STATE, 1, 2);
        refused("move to its grandchild", Check.STATE, 1, 3);
        FileIndexer x = start();
        Check.thrown(x, "move to its child", Check.STATE, y -> y.move(1, 2));
        Check.due("nothing was moved", 0, x.move(1, 0));
        Check.due("the chain is whole", 4, x.remove(1));
    }

    private static void deepestChain() {
        FileIndexer x = new FileIndexer();
        for (int node = 1; node <= 15; node++) {
            x.make(node, node - 1, true);
        }
        Check.thrown(x, "move to the deepest", Check.STATE, y -> y.move(1, 15));
        Check.due("move the deepest up", 1, x.move(15, 0));
        Check.due("then it takes the chain", 1, x.move(1, 15));
        Check.thrown(x, "and not the other way", Check.STATE, y -> y.move(15, 14));
        Check.due("all", 15, x.remove(15));
    }
}
