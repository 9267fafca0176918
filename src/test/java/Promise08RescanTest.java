/** Promise 8: rescan. */
public final class Promise08RescanTest {
    public static void main(String[] args) {
        readsJustWhatIsThere();
        endsTheLoss();
        Check.end();
    }

    private static void readsJustWhatIsThere() {
        FileIndexer x = new FileIndexer();
        Check.due("nothing there", 0, x.rescan());
        x.make(1, 0, true);
        x.make(15, 1, false);
        x.make(2, 0, false);
        x.make(3, 0, false);
        x.make(4, 0, false);
        Check.write(x, 3, "gone");
        x.work(8);
        Check.write(x, 15, "deep word");
        x.remove(3);
        x.remove(4);
        x.make(4, 0, true);
        Check.due("two files", 2, x.rescan());
        Check.due("files of the index", 2, x.count(2));
        Check.due("events", 0, x.count(3));
        Check.due("read in its folder", 2, x.words(15));
        Check.due("read empty", 0, x.words(2));
        Check.due("not there", -1, Check.wordsOrNone(x, 3));
        Check.due("a folder", -1, Check.wordsOrNone(x, 1));
        Check.due("a folder that was a file", -1, Check.wordsOrNone(x, 4));
        Check.finds(x, "gone", "");
        Check.due("reads", 6, x.count(6));
        Check.due("again", 2, x.rescan());
        Check.due("each time anew", 8, x.count(6));
    }

    private static void endsTheLoss() {
        FileIndexer x = new FileIndexer();
        for (int file = 1; file <= 15; file++) {
            x.make(file, 0, false);
        }
        Check.due("LOST", 1, x.count(4));
        Check.due("all", 15, x.rescan());
        Check.due("not LOST", 0, x.count(4));
        x.write(7, 'a', 1);
        Check.dueText("events are kept again", "2/7", Check.events(x));
        x.rescan();
        Check.dueText("no event", "", Check.events(x));
        Check.finds(x, "a", "7:1");
    }
}
