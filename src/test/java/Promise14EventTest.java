/** Promise 14: event. How events are put together stands in the terms and is tested there. */
public final class Promise14EventTest {
    public static void main(String[] args) {
        kindAndFile();
        fromTheFront();
        refusesWhereThereIsNone();
        Check.end();
    }

    /** "16 times its kind plus the file" */
    private static void kindAndFile() {
        for (int file = 1; file <= 15; file++) {
            FileIndexer x = new FileIndexer();
            x.make(file, 0, false);
            Check.due("CREATED", 16 + file, x.event(0));
            x.work(1);
            x.write(file, 'a', 1);
            Check.due("CHANGED", 32 + file, x.event(0));
            x.remove(file);
            Check.due("REMOVED", 48 + file, x.event(0));
        }
    }

    private static FileIndexer waiting(int events) {
        FileIndexer x = new FileIndexer();
        for (int file = 15; file > 15 - events; file--) {
            x.make(file, 0, false);
        }
        return x;
    }

    /** "The event at the place k (from 0) in the queue" */
    private static void fromTheFront() {
        FileIndexer x = waiting(8);
        for (int k = 0; k <= 7; k++) {
            Check.due("event " + k, 16 + 15 - k, x.event(k));
        }
        x.work(3);
        for (int k = 0; k <= 4; k++) {
            Check.due("event " + k, 16 + 12 - k, x.event(k));
        }
        Check.due("it is not taken", 5, x.count(3));
    }

    /** "NoSuchElementException: there is none." */
    private static void refusesWhereThereIsNone() {
        for (int each = 0; each <= 8; each++) {
            int events = each;
            Check.refused(() -> waiting(events), "behind the last of " + events, Check.NO_SUCH,
                x -> x.event(events));
            Check.refused(() -> waiting(events), "before the first of " + events, Check.NO_SUCH, x -> x.event(-1));
        }
        for (int k : new int[] {8, 9, 16, Integer.MIN_VALUE, Integer.MAX_VALUE}) {
            Check.refused(FileIndexer::new, "event " + k, Check.NO_SUCH, x -> x.event(k));
            Check.refused(() -> waiting(8), "event of a full queue " + k, Check.NO_SUCH, x -> x.event(k));
            Check.refused(() -> waiting(9), "event while LOST " + k, Check.NO_SUCH, x -> x.event(k));
        }
        Check.refused(() -> waiting(9), "event 0 while LOST", Check.NO_SUCH, x -> x.event(0));
        FileIndexer x = waiting(8);
        x.work(8);
        Check.thrown(x, "no event is left", Check.NO_SUCH, y -> y.event(0));
    }
}
