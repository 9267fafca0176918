/** Terms: nodes, the root, what is within a folder, contents, and the 512 calls of an object. */
public final class TermsNodesTest {
    public static void main(String[] args) {
        nodesAreThereOrNot();
        allNodesAtOnce();
        theRootIsAFolderAlwaysThere();
        withinTheParent();
        withinWhatTheParentIsWithin();
        contentOfUpToSixty();
        contentOfCodes();
        contentEmptyAtFirst();
        fiveHundredAndTwelveCalls();
        Check.end();
    }

    /** "NODES 0 .. 15 are there or not" */
    private static void nodesAreThereOrNot() {
        for (int each = 1; each <= 15; each++) {
            int node = each;
            FileIndexer x = new FileIndexer();
            Check.thrown(x, "not there at first " + node, Check.NO_SUCH, y -> y.remove(node));
            Check.due("make " + node, 1, x.make(node, 0, node % 2 == 0));
            Check.due("nodes", 2, x.count(0));
            Check.thrown(x, "there " + node, Check.STATE, y -> y.make(node, 0, node % 2 == 0));
            Check.due("remove " + node, 1, x.remove(node));
            Check.due("nodes", 1, x.count(0));
            Check.thrown(x, "not there again " + node, Check.NO_SUCH, y -> y.remove(node));
        }
    }

    private static FileIndexer allFolders() {
        FileIndexer x = new FileIndexer();
        for (int node = 1; node <= 15; node++) {
            x.make(node, 0, true);
        }
        return x;
    }

    private static void allNodesAtOnce() {
        Check.due("all nodes", 16, allFolders().count(0));
        Check.due("none is a file", 0, allFolders().count(1));
        for (int each = 1; each <= 15; each++) {
            int node = each;
            Check.refused(TermsNodesTest::allFolders, "make when all are there " + node, Check.STATE,
                x -> x.make(node, 0, false));
        }
        FileIndexer files = new FileIndexer();
        for (int node = 1; node <= 15; node++) {
            files.make(node, 0, false);
        }
        Check.due("all nodes", 16, files.count(0));
        Check.due("all but the root are files", 15, files.count(1));
    }

    /** "node 0 is the ROOT, a FOLDER, always there" */
    private static void theRootIsAFolderAlwaysThere() {
        FileIndexer x = new FileIndexer();
        Check.due("there at first", 1, x.count(0));
        Check.finds(x, "a", "");
        Check.due("a folder that others are made in", 1, x.make(1, 0, true));
        Check.due("and moved to", 0, x.move(1, 0));
        x.remove(1);
        Check.due("there when all else went", 1, x.count(0));
        Check.finds(x, "a", "");
        Check.due("still a folder", 1, x.make(1, 0, false));
        Check.refused(FileIndexer::new, "the root is not made", Check.ARGUMENT, y -> y.make(0, 0, true));
        Check.refused(FileIndexer::new, "nor removed", Check.ARGUMENT, y -> y.remove(0));
        Check.refused(FileIndexer::new, "nor moved", Check.ARGUMENT, y -> y.move(0, 0));
        Check.refused(FileIndexer::new, "it is no file to write", Check.NO_SUCH, y -> y.write(0, 'a', 1));
        Check.refused(FileIndexer::new, "nor to cut", Check.NO_SUCH, y -> y.cut(0, 0));
        Check.refused(FileIndexer::new, "nor in the index", Check.NO_SUCH, y -> y.words(0));
    }

    /** "A folder or file is WITHIN a folder if that is its parent" */
    private static void withinTheParent() {
        FileIndexer x = new FileIndexer();
        x.make(1, 0, true);
        x.make(2, 1, false);
        x.make(3, 1, true);
        x.make(4, 0, false);
        x.make(5, 0, true);
        Check.thrown(x, "a folder in it is within", Check.STATE, y -> y.move(1, 3));
        Check.due("one beside it is not", 1, x.move(1, 5));
        Check.due("a file and a folder in it go with it", 3, x.remove(1));
        Check.due("those beside it stay", 3, x.count(0));
    }

    /** The folders 1 .. 15, each within the one before. */
    private static FileIndexer chain() {
        FileIndexer x = new FileIndexer();
        for (int node = 1; node <= 15; node++) {
            x.make(node, node - 1, true);
        }
        return x;
    }

    /** "or its parent is within it" */
    private static void withinWhatTheParentIsWithin() {
        for (int upper = 1; upper <= 15; upper++) {
            Check.due("all within " + upper, 16 - upper, chain().remove(upper));
            for (int lower = upper; lower <= 15; lower++) {
                int node = upper;
                int below = lower;
                Check.thrown(chain(), below + " is within " + node, Check.STATE, x -> x.move(node, below));
                if (upper < lower) {
                    int due = upper == lower - 1 ? 0 : 1;
                    Check.due(node + " is not within " + below, due, chain().move(below, node));
                }
            }
        }
    }

    /** "a CONTENT of up to 60 characters" */
    private static void contentOfUpToSixty() {
        FileIndexer x = new FileIndexer();
        x.make(15, 0, false);
        for (int length = 1; length <= 60; length++) {
            Check.due("one more", length, x.write(15, length % 2 == 0 ? ' ' : 'a', 1));
        }
        Check.thrown(x, "the 61st", Check.STATE, y -> y.write(15, 'a', 1));
        Check.due("60 are there", 0, x.cut(15, 60));
        x.work(1);
        Check.due("all of them are read", 30, x.words(15));
        Check.due("one goes", 1, x.cut(15, 59));
        Check.due("one comes", 60, x.write(15, 'a', 1));
        Check.thrown(x, "the 61st again", Check.STATE, y -> y.write(15, 'a', 1));
    }

    /** "of codes 32 .. 126" */
    private static void contentOfCodes() {
        for (int each = 0; each <= 255; each++) {
            int code = each;
            FileIndexer x = new FileIndexer();
            x.make(1, 0, false);
            if (code >= 32 && code <= 126) {
                Check.due("code " + code, 1, x.write(1, code, 1));
            } else {
                Check.thrown(x, "code " + code, Check.ARGUMENT, y -> y.write(1, code, 1));
                Check.due("nothing is added", 0, x.cut(1, 0));
            }
        }
    }

    /** "empty at first" */
    private static void contentEmptyAtFirst() {
        FileIndexer x = new FileIndexer();
        x.make(1, 0, false);
        Check.thrown(x, "nothing to keep", Check.ARGUMENT, y -> y.cut(1, 1));
        x.work(1);
        Check.due("no words", 0, x.words(1));
        Check.write(x, 1, "some words");
        x.remove(1);
        x.make(1, 0, false);
        Check.thrown(x, "empty when it is made again", Check.ARGUMENT, y -> y.cut(1, 1));
        x.work(1);
        Check.due("no words again", 0, x.words(1));
        Check.due("its first character", 1, x.write(1, 'a', 1));
    }

    /** "An object is used for at most 512 calls after it has been made" */
    private static void fiveHundredAndTwelveCalls() {
        FileIndexer reading = new FileIndexer();
        for (int node = 1; node <= 15; node++) {
            reading.make(node, 0, false);
        }
        for (int calls = 16; calls <= 511; calls++) {
            Check.due("rescan", 15, reading.rescan());
        }
        Check.due("the 512th call", 496 * 15, reading.count(6));

        FileIndexer typing = new FileIndexer();
        for (int searches = 1; searches <= 256; searches++) {
            Check.due("type", 1, typing.type('a'));
            Check.due("search", 0, typing.search(0));
        }

        FileIndexer making = new FileIndexer();
        for (int times = 1; times <= 256; times++) {
            Check.due("make", 1, making.make(15, 0, false));
            Check.due("remove", 1, making.remove(15));
        }
    }
}
