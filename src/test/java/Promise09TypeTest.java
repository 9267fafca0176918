/** Promise 9: type. */
public final class Promise09TypeTest {
    public static void main(String[] args) {
        FileIndexer x = new FileIndexer();
        Check.due("lowest", 1, x.type(32));
        Check.due("highest", 2, x.type(126));
        Check.due("count", 2, x.count(5));
        for (int code : new int[] {31, 127, 0, -1, 255, Integer.MIN_VALUE, Integer.MAX_VALUE}) {
            Check.refused(FileIndexer::new, "type " + code, Check.ARGUMENT, y -> y.type(code));
            Check.refused(Promise09TypeTest::full, "type when full " + code, Check.ARGUMENT, y -> y.type(code));
        }
        Check.refused(Promise09TypeTest::full, "the 41st", Check.STATE, y -> y.type('a'));
        longestQuery();
        Check.end();
    }

    private static FileIndexer full() {
        FileIndexer x = new FileIndexer();
        for (int i = 1; i <= 40; i++) {
            Check.due("type", i, x.type(' '));
        }
        return x;
    }

    private static void longestQuery() {
        FileIndexer x = new FileIndexer();
        x.make(1, 0, false);
        Check.write(x, 1, "end");
        x.work(1);
        Check.finds(x, " ".repeat(37) + "end", "1:1");
        Check.due("a new query", 1, x.type('e'));
    }
}
