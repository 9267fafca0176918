/** Promise 1: a new object has the root alone, and nothing waits, is indexed, typed or found. */
public final class Promise01NewObjectTest {
    public static void main(String[] args) {
        FileIndexer x = new FileIndexer();
        Check.dueText("a new object", "1 0 0 0 0 0 0 | -1 |  |  |"
            + " -1 -1 -1 -1 -1 -1 -1 -1 -1 -1 -1 -1 -1 -1 -1 -1", Check.seen(x));
        Check.due("make in the root", 1, x.make(1, 0, false));
        Check.due("a new file is empty", 0, x.cut(1, 0));
        Check.thrown(x, "cut(1, 1)", Check.ARGUMENT, y -> y.cut(1, 1));
        twoObjectsShareNothing();
        Check.end();
    }

    private static void twoObjectsShareNothing() {
        FileIndexer one = new FileIndexer();
        FileIndexer two = new FileIndexer();
        String before = Check.seen(two);
        one.make(3, 0, false);
        Check.write(one, 3, "word");
        one.rescan();
        Check.search(one, "word", 0);
        one.make(4, 0, false);
        one.type('a');
        Check.dueText("the other object", before, Check.seen(two));
    }
}
