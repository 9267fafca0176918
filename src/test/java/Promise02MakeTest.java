/** Promise 2: make. */
public final class Promise02MakeTest {
    public static void main(String[] args) {
        makesFoldersAndFiles();
        refusesWrongNumbers();
        refusesWrongStates();
        makesAnewAfterRemoval();
        Check.end();
    }

    private static void makesFoldersAndFiles() {
        FileIndexer x = new FileIndexer();
        Check.due("make(1, 0, true)", 1, x.make(1, 0, true));
        Check.dueText("no event of a folder", "", Check.events(x));
        Check.due("make(15, 1, false)", 1, x.make(15, 1, false));
        Check.due("make(2, 0, false)", 1, x.make(2, 0, false));
        Check.dueText("events", "1/15 1/2", Check.events(x));
        Check.due("nodes", 4, x.count(0));
        Check.due("files", 2, x.count(1));
    }

    /** 1 is a file, 2 a folder, 3 was a folder; the rest was never there. */
    private static FileIndexer start() {
        FileIndexer x = new FileIndexer();
        x.make(1, 0, false);
        x.make(2, 0, true);
        x.make(3, 0, true);
        x.remove(3);
        return x;
    }

    private static void refused(String call, Class<?> want, int node, int parent) {
        Check.refused(Promise02MakeTest::start, call + ", a file", want, x -> x.make(node, parent, false));
        Check.refused(Promise02MakeTest::start, call + ", a folder", want, x -> x.make(node, parent, true));
    }

    private static void refusesWrongNumbers() {
        for (int node : new int[] {0, -1, 16, Integer.MIN_VALUE, Integer.MAX_VALUE}) {
            refused("make " + node, Check.ARGUMENT, node, 0);
            refused("make in no folder " + node, Check.ARGUMENT, node, 5);
        }
        for (int parent : new int[] {-1, 16, Integer.MIN_VALUE, Integer.MAX_VALUE}) {
            refused("make in " + parent, Check.ARGUMENT, 4, parent);
            refused("make what is there in " + parent, Check.ARGUMENT, 1, parent);
        }
    }

    private static void refusesWrongStates() {
        refused("no such parent", Check.STATE, 4, 5);
        refused("its own parent", Check.STATE, 4, 4);
        refused("a file as parent", Check.STATE, 4, 1);
        refused("a removed parent", Check.STATE, 4, 3);
        refused("a file that is there", Check.STATE, 1, 0);
        refused("a folder that is there", Check.STATE, 2, 0);
    }

    private static void makesAnewAfterRemoval() {
        FileIndexer x = new FileIndexer();
        x.make(1, 0, false);
        Check.write(x, 1, "old");
        x.remove(1);
        x.make(1, 0, false);
        Check.thrown(x, "the new file is empty", Check.ARGUMENT, y -> y.cut(1, 1));
        Check.due("write", 1, x.write(1, 'n', 1));
        x.remove(1);
        x.make(1, 0, true);
        Check.due("a folder where a file was", 1, x.make(2, 1, true));
        Check.due("files", 0, x.count(1));
    }
}
