/** Promise 14: event, and how events are put together. */
public final class Promise14EventTest {
    public static void main(String[] args) {
        putsTogether();
        keepsThePlace();
        losesTheIndex();
        refuses();
        Check.end();
    }

    private static void putsTogether() {
        FileIndexer x = new FileIndexer();
        x.make(15, 0, false);
        Check.due("CREATED", 16 + 15, x.event(0));
        x.write(15, 'a', 1);
        Check.dueText("CREATED and CHANGED", "1/15", Check.events(x));
        x.cut(15, 0);
        Check.dueText("CREATED and CHANGED by cut", "1/15", Check.events(x));
        x.remove(15);
        Check.dueText("CREATED and REMOVED", "", Check.events(x));
        x.make(15, 0, false);
        x.work(1);
        x.write(15, 'a', 1);
        Check.due("CHANGED", 32 + 15, x.event(0));
        x.write(15, 'a', 1);
        Check.dueText("CHANGED and CHANGED", "2/15", Check.events(x));
        x.remove(15);
        Check.due("CHANGED and REMOVED", 48 + 15, x.event(0));
        x.make(15, 0, false);
        Check.dueText("REMOVED and CREATED", "2/15", Check.events(x));
        x.remove(15);
        Check.dueText("and REMOVED again", "3/15", Check.events(x));
        x.make(15, 0, true);
        x.remove(15);
        Check.dueText("a folder of this number changes nothing", "3/15", Check.events(x));
    }

    private static void keepsThePlace() {
        FileIndexer x = new FileIndexer();
        for (int file = 1; file <= 4; file++) {
            x.make(file, 0, false);
        }
        x.work(3);
        x.write(3, 'a', 1);
        x.write(1, 'a', 1);
        x.write(2, 'a', 1);
        Check.dueText("in the order of the first", "1/4 2/3 2/1 2/2", Check.events(x));
        x.remove(3);
        x.write(4, 'a', 1);
        Check.dueText("put together where it stands", "1/4 3/3 2/1 2/2", Check.events(x));
        x.remove(4);
        Check.dueText("the others move up", "3/3 2/1 2/2", Check.events(x));
        x.make(4, 0, false);
        x.make(3, 0, false);
        Check.dueText("a new one goes behind", "2/3 2/1 2/2 1/4", Check.events(x));
    }

    private static FileIndexer full() {
        FileIndexer x = new FileIndexer();
        for (int file = 1; file <= 9; file++) {
            x.make(file, 0, false);
            if (file == 1) {
                x.work(1);
            }
        }
        return x;
    }

    private static void losesTheIndex() {
        FileIndexer x = full();
        Check.due("eight events", 8, x.count(3));
        x.write(9, 'a', 1);
        Check.due("a known file needs no place", 8, x.count(3));
        Check.due("not LOST", 0, x.count(4));
        x.remove(5);
        x.write(1, 'a', 1);
        Check.dueText("full again", "1/2 1/3 1/4 1/6 1/7 1/8 1/9 2/1", Check.events(x));
        x.make(5, 0, false);
        Check.due("LOST", 1, x.count(4));
        Check.due("all events went", 0, x.count(3));
        Check.due("the file is there", 9, x.count(1));
        Check.due("the index keeps its files", 1, x.count(2));
        x.make(10, 0, false);
        x.write(2, 'a', 1);
        x.remove(3);
        Check.due("no event is kept", 0, x.count(3));
        x.rescan();
        x.write(2, 'a', 1);
        Check.dueText("kept again", "2/2", Check.events(x));
    }

    private static void refuses() {
        for (int k : new int[] {0, -1, 8, Integer.MIN_VALUE, Integer.MAX_VALUE}) {
            Check.refused(FileIndexer::new, "event " + k, Check.NO_SUCH, x -> x.event(k));
        }
        Check.refused(Promise14EventTest::full, "event 8", Check.NO_SUCH, x -> x.event(8));
        Check.due("event 7", 16 + 9, full().event(7));
        FileIndexer x = full();
        x.work(8);
        Check.thrown(x, "no event is left", Check.NO_SUCH, y -> y.event(0));
    }
}
