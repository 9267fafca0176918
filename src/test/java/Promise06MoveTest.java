/** Promise 6: move. */
public final class Promise06MoveTest {
    private static final int[] NO_NODES = {0, -1, 16, 17, -16, Integer.MIN_VALUE, Integer.MAX_VALUE};
    private static final int[] NO_PARENTS = {-1, 16, 17, -16, Integer.MIN_VALUE, Integer.MAX_VALUE};

    public static void main(String[] args) {
        movesIntoAFolder();
        movesWithAllWithin();
        tellsNothing();
        refusesNodesOutOfRange();
        refusesParentsOutOfRange();
        refusesWhatIsNotThere();
        refusesAParentThatIsNoFolder();
        refusesAParentThatIsTheNodeOrWithin();
        deepestChain();
        Check.end();
    }

    /** "Moves a node into a folder: 1 if its parent was another one, else 0." */
    private static void movesIntoAFolder() {
        FileIndexer x = new FileIndexer();
        x.make(1, 0, true);
        x.make(15, 0, true);
        x.make(2, 1, false);
        Check.due("to where it is", 0, x.move(2, 1));
        Check.due("to the highest", 1, x.move(2, 15));
        Check.due("it is there now", 0, x.move(2, 15));
        Check.due("to the root", 1, x.move(2, 0));
        Check.due("it is there now", 0, x.move(2, 0));
        Check.due("the highest into the lowest", 1, x.move(15, 1));
        Check.due("into the folder in the folder", 1, x.move(2, 15));
        Check.due("up by one", 1, x.move(2, 1));
        Check.due("the highest to where it is", 0, x.move(15, 1));
    }

    private static void movesWithAllWithin() {
        FileIndexer x = new FileIndexer();
        x.make(1, 0, true);
        x.make(2, 0, true);
        x.make(3, 1, true);
        x.make(4, 3, false);
        x.work(8);
        Check.due("to another", 1, x.move(3, 2));
        Check.due("the old folder is empty", 1, x.remove(1));
        Check.due("the new one has all", 3, x.remove(2));
    }

    private static void tellsNothing() {
        FileIndexer x = new FileIndexer();
        x.make(1, 0, true);
        x.make(2, 0, false);
        x.work(8);
        x.move(2, 1);
        Check.dueText("no event of a file", "", Check.events(x));
        x.make(3, 0, true);
        x.move(1, 3);
        Check.dueText("no event of a folder", "", Check.events(x));
        Check.due("reads", 1, x.count(6));
        Check.due("nodes", 4, x.count(0));
    }

    /** The folders 1, 2 and 3, each within the one before, and the file 4 in the last; 5 was a folder. */
    private static FileIndexer start() {
        FileIndexer x = new FileIndexer();
        x.make(1, 0, true);
        x.make(2, 1, true);
        x.make(3, 2, true);
        x.make(4, 3, false);
        x.make(5, 0, true);
        x.remove(5);
        return x;
    }

    private static void refused(String call, Class<?> want, int node, int parent) {
        Check.refused(Promise06MoveTest::start, call, want, x -> x.move(node, parent));
    }

    /** "IllegalArgumentException: node not 1 .. 15" */
    private static void refusesNodesOutOfRange() {
        for (int node : NO_NODES) {
            refused("move " + node, Check.ARGUMENT, node, 0);
            refused("move to nowhere " + node, Check.ARGUMENT, node, 9);
            refused("move to a folder " + node, Check.ARGUMENT, node, 1);
        }
    }

    /** "or parent not 0 .. 15" */
    private static void refusesParentsOutOfRange() {
        for (int parent : NO_PARENTS) {
            refused("move to " + parent, Check.ARGUMENT, 1, parent);
            refused("move what is not there to " + parent, Check.ARGUMENT, 9, parent);
        }
    }

    /** "NoSuchElementException: it is not there" */
    private static void refusesWhatIsNotThere() {
        refused("move what was never there", Check.NO_SUCH, 15, 0);
        refused("move what is not there", Check.NO_SUCH, 5, 0);
        refused("move it into itself", Check.NO_SUCH, 5, 5);
        refused("move it to a folder", Check.NO_SUCH, 5, 3);
    }

    /** "or the parent is no folder that is there" */
    private static void refusesAParentThatIsNoFolder() {
        refused("move to what is not there", Check.NO_SUCH, 1, 5);
        refused("move to what was never there", Check.NO_SUCH, 1, 15);
        refused("move to a file", Check.NO_SUCH, 2, 4);
        refused("move to a file within it", Check.NO_SUCH, 1, 4);
        refused("move a file into itself", Check.NO_SUCH, 4, 4);
    }

    /** "IllegalStateException: the parent is the node or within it." */
    private static void refusesAParentThatIsTheNodeOrWithin() {
        refused("move a folder into itself", Check.STATE, 1, 1);
        refused("move an inner folder into itself", Check.STATE, 3, 3);
        refused("move to its child", Check.STATE, 1, 2);
        refused("move to its grandchild", Check.STATE, 1, 3);
        Check.due("to its grandparent", 1, start().move(3, 1));
        Check.due("to its parent", 0, start().move(3, 2));
        FileIndexer x = start();
        Check.thrown(x, "move to its child", Check.STATE, y -> y.move(1, 2));
        Check.due("nothing was moved", 0, x.move(1, 0));
        Check.due("the chain is whole", 4, x.remove(1));
    }

    private static void deepestChain() {
        FileIndexer x = new FileIndexer();
        for (int node = 1; node <= 15; node++) {
            x.make(node, node - 1, true);
        }
        Check.thrown(x, "move to the deepest", Check.STATE, y -> y.move(1, 15));
        Check.due("move the deepest up", 1, x.move(15, 0));
        Check.due("then it takes the chain", 1, x.move(1, 15));
        Check.thrown(x, "and not the other way", Check.STATE, y -> y.move(15, 14));
        Check.due("all", 15, x.remove(15));
    }
}
