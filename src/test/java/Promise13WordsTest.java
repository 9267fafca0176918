/** Promise 13: words. */
public final class Promise13WordsTest {
    public static void main(String[] args) {
        FileIndexer x = start();
        Check.due("words", 3, x.words(1));
        Check.write(x, 1, " four");
        Check.due("when it was read", 3, x.words(1));
        x.work(8);
        Check.due("read again", 4, x.words(1));
        x.remove(1);
        Check.due("still in the index", 4, x.words(1));
        x.work(8);
        Check.thrown(x, "no longer", Check.NO_SUCH, y -> y.words(1));
        Check.due("no words", 0, x.words(15));
        for (int file : new int[] {-1, 0, 2, 3, 4, 16, Integer.MIN_VALUE, Integer.MAX_VALUE}) {
            Check.refused(Promise13WordsTest::start, "words of " + file, Check.NO_SUCH, y -> y.words(file));
        }
        Check.end();
    }

    /** 1 and 15 were read, 2 is a folder, 3 was not read yet. */
    private static FileIndexer start() {
        FileIndexer x = new FileIndexer();
        x.make(1, 0, false);
        x.make(15, 0, false);
        Check.write(x, 1, "#one two;three");
        x.work(8);
        x.make(2, 0, true);
        x.make(3, 2, false);
        return x;
    }
}
