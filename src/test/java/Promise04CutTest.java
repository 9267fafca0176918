/** Promise 4: cut. */
public final class Promise04CutTest {
    public static void main(String[] args) {
        keepsTheFirst();
        refusesInOrder();
        Check.end();
    }

    private static void keepsTheFirst() {
        FileIndexer x = new FileIndexer();
        x.make(1, 0, false);
        Check.write(x, 1, "one two three");
        x.work(1);
        Check.due("cut to its length", 0, x.cut(1, 13));
        Check.dueText("no event", "", Check.events(x));
        Check.due("cut to 7", 6, x.cut(1, 7));
        Check.dueText("an event", "2/1", Check.events(x));
        Check.due("as it was read", 3, x.words(1));
        x.work(1);
        Check.due("words", 2, x.words(1));
        Check.due("written behind the cut", 8, x.write(1, 's', 1));
        x.work(1);
        Check.finds(x, "twos", "1:1");
        Check.due("cut of one character", 1, x.cut(1, 7));
        Check.dueText("an event of it", "2/1", Check.events(x));
        Check.due("cut to 0", 7, x.cut(1, 0));
        x.work(1);
        Check.due("no words", 0, x.words(1));
        Check.due("cut of an empty file", 0, x.cut(1, 0));
        Check.dueText("no event of it", "", Check.events(x));
    }

    /** 1 is a file of 3 characters, 2 a folder, 3 was a file of 1 character. */
    private static FileIndexer start() {
        FileIndexer x = new FileIndexer();
        x.make(1, 0, false);
        x.make(2, 0, true);
        x.make(3, 0, false);
        Check.write(x, 1, "abc");
        Check.write(x, 3, "d");
        x.remove(3);
        x.work(8);
        return x;
    }

    private static void refusesInOrder() {
        for (int file : new int[] {-1, 0, 2, 3, 4, 16, Integer.MIN_VALUE, Integer.MAX_VALUE}) {
            Check.refused(Promise04CutTest::start, "cut of " + file, Check.NO_SUCH, x -> x.cut(file, 0));
            Check.refused(Promise04CutTest::start, "cut to -1 of " + file, Check.NO_SUCH, x -> x.cut(file, -1));
        }
        for (int n : new int[] {-1, 4, 60, Integer.MIN_VALUE, Integer.MAX_VALUE}) {
            Check.refused(Promise04CutTest::start, "cut to " + n, Check.ARGUMENT, x -> x.cut(1, n));
        }
        FileIndexer x = start();
        Check.thrown(x, "cut to 4", Check.ARGUMENT, y -> y.cut(1, 4));
        Check.due("nothing was cut", 4, x.write(1, 'd', 1));
    }
}
