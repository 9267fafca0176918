/** Promise 1: a new object has the root alone, and nothing waits, is indexed, typed or found. */
public final class Promise01NewObjectTest {
    public static void main(String[] args) {
        theStateThatTheTermsGive();
        everyCallOnANewObject();
        twoObjectsShareNothing();
        Check.end();
    }

    /** "makes an object in the state that the terms give" */
    private static void theStateThatTheTermsGive() {
        FileIndexer x = new FileIndexer();
        Check.dueText("a new object", "1 0 0 0 0 0 0 | -1 |  |  |"
            + " -1 -1 -1 -1 -1 -1 -1 -1 -1 -1 -1 -1 -1 -1 -1 -1", Check.seen(x));
        Check.due("make in the root", 1, x.make(1, 0, false));
        Check.due("a new file is empty", 0, x.cut(1, 0));
        Check.thrown(x, "cut(1, 1)", Check.ARGUMENT, y -> y.cut(1, 1));
    }

    private static void everyCallOnANewObject() {
        Check.refused(FileIndexer::new, "write", Check.NO_SUCH, x -> x.write(1, 'a', 1));
        Check.refused(FileIndexer::new, "cut", Check.NO_SUCH, x -> x.cut(1, 0));
        Check.refused(FileIndexer::new, "remove", Check.NO_SUCH, x -> x.remove(1));
        Check.refused(FileIndexer::new, "move", Check.NO_SUCH, x -> x.move(1, 0));
        Check.refused(FileIndexer::new, "result", Check.NO_SUCH, x -> x.result(0, 0));
        Check.refused(FileIndexer::new, "words", Check.NO_SUCH, x -> x.words(1));
        Check.refused(FileIndexer::new, "event", Check.NO_SUCH, x -> x.event(0));
        Check.due("work", 0, new FileIndexer().work(1));
        Check.due("rescan", 0, new FileIndexer().rescan());
        Check.due("type", 1, new FileIndexer().type(' '));
        FileIndexer x = new FileIndexer();
        Check.thrown(x, "search for nothing", Check.ARGUMENT, y -> y.search(0));
        Check.due("its fault", 0, x.fault());
    }

    private static void twoObjectsShareNothing() {
        FileIndexer one = new FileIndexer();
        FileIndexer two = new FileIndexer();
        String before = Check.seen(two);
        one.make(3, 0, false);
        Check.write(one, 3, "word");
        one.rescan();
        Check.search(one, "word", 0);
        one.make(4, 0, false);
        one.type('a');
        Check.dueText("the other object", before, Check.seen(two));
    }
}
