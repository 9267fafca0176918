/** Promise 2: make. */
public final class Promise02MakeTest {
    private static final int[] NO_NODES = {0, -1, 16, 17, -16, 256, Integer.MIN_VALUE, Integer.MAX_VALUE};
    private static final int[] NO_PARENTS = {-1, 16, 17, -16, 256, Integer.MIN_VALUE, Integer.MAX_VALUE};

    public static void main(String[] args) {
        makesANodeInAFolder();
        tellsCreatedOfAFile();
        refusesNodesOutOfRange();
        refusesParentsOutOfRange();
        refusesANodeThatIsThere();
        refusesAParentThatIsNoFolder();
        makesAnewAfterRemoval();
        Check.end();
    }

    /** "Makes a node in a folder: 1" */
    private static void makesANodeInAFolder() {
        FileIndexer x = new FileIndexer();
        Check.due("the lowest, a folder", 1, x.make(1, 0, true));
        Check.due("the highest, in it", 1, x.make(15, 1, true));
        Check.due("a file in the highest", 1, x.make(2, 15, false));
        Check.due("nodes", 4, x.count(0));
        Check.due("files", 1, x.count(1));
        Check.due("the file is in its folder", 0, x.move(2, 15));
        Check.due("and that in its own", 0, x.move(15, 1));
        Check.due("all of them", 3, x.remove(1));
        for (int node = 1; node <= 15; node++) {
            Check.due("a file " + node, 1, new FileIndexer().make(node, 0, false));
            Check.due("a folder " + node, 1, new FileIndexer().make(node, 0, true));
        }
    }

    /** "of a file CREATED is told" */
    private static void tellsCreatedOfAFile() {
        FileIndexer x = new FileIndexer();
        x.make(1, 0, true);
        Check.dueText("nothing of a folder", "", Check.events(x));
        x.make(15, 1, false);
        x.make(2, 0, false);
        Check.dueText("of two files", "1/15 1/2", Check.events(x));
        Check.due("they are not read yet", 0, x.count(2));
    }

    /** 1 is a file, 2 a folder, 3 was a folder, 6 a file; the rest was never there. A query is typed. */
    private static FileIndexer start() {
        FileIndexer x = new FileIndexer();
        x.make(1, 0, false);
        x.make(2, 0, true);
        x.make(3, 0, true);
        x.make(6, 3, false);
        x.write(1, 'a', 1);
        x.work(8);
        x.remove(3);
        x.type('a');
        return x;
    }

    private static void refused(String call, Class<?> want, int node, int parent) {
        Check.refused(Promise02MakeTest::start, call + ", a file", want, x -> x.make(node, parent, false));
        Check.refused(Promise02MakeTest::start, call + ", a folder", want, x -> x.make(node, parent, true));
    }

    /** "IllegalArgumentException: node not 1 .. 15" */
    private static void refusesNodesOutOfRange() {
        for (int node : NO_NODES) {
            refused("make " + node, Check.ARGUMENT, node, 0);
            refused("make in no folder " + node, Check.ARGUMENT, node, 5);
        }
    }

    /** "or parent not 0 .. 15" */
    private static void refusesParentsOutOfRange() {
        for (int parent : NO_PARENTS) {
            refused("make in " + parent, Check.ARGUMENT, 4, parent);
            refused("make what is there in " + parent, Check.ARGUMENT, 1, parent);
        }
    }

    /** "IllegalStateException: the node is there" */
    private static void refusesANodeThatIsThere() {
        refused("a file that is there", Check.STATE, 1, 0);
        refused("a folder that is there", Check.STATE, 2, 0);
        refused("a file that is there, in a folder", Check.STATE, 1, 2);
        refused("a folder that is there, in itself", Check.STATE, 2, 2);
    }

    /** "or the parent is no folder that is there" */
    private static void refusesAParentThatIsNoFolder() {
        refused("no such parent", Check.STATE, 4, 5);
        refused("the highest, which is not there, as parent", Check.STATE, 4, 15);
        refused("its own parent", Check.STATE, 4, 4);
        refused("a file as parent", Check.STATE, 4, 1);
        refused("a removed folder as parent", Check.STATE, 4, 3);
        refused("a removed file as parent", Check.STATE, 4, 6);
    }

    private static void makesAnewAfterRemoval() {
        FileIndexer x = new FileIndexer();
        x.make(1, 0, false);
        Check.write(x, 1, "old");
        x.remove(1);
        x.make(1, 0, false);
        Check.thrown(x, "the new file is empty", Check.ARGUMENT, y -> y.cut(1, 1));
        Check.due("write", 1, x.write(1, 'n', 1));
        x.remove(1);
        x.make(1, 0, true);
        Check.due("a folder where a file was", 1, x.make(2, 1, true));
        Check.due("files", 0, x.count(1));
        x.remove(1);
        x.make(1, 0, false);
        Check.thrown(x, "a file where a folder was", Check.STATE, y -> y.make(2, 1, true));
    }
}
