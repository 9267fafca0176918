/** Promise 3: write. */
public final class Promise03WriteTest {
    public static void main(String[] args) {
        addsTheLowestBytes();
        tellsChanged();
        refusesInOrder();
        keepsToTheLimit();
        Check.end();
    }

    private static void addsTheLowestBytes() {
        FileIndexer x = new FileIndexer();
        x.make(1, 0, false);
        Check.due("two of eight bytes", 2, x.write(1, Check.valueOf("abcdefgh"), 2));
        x.work(1);
        Check.finds(x, "gh", "1:1");
        Check.finds(x, "hg", "");
        Check.due("high bytes do not count", 3, x.write(1, 0xFFFFFFFFFFFFFF00L | 'i', 1));
        Check.due("eight bytes", 11, x.write(1, Check.valueOf(" ABC xyz"), 8));
        x.work(1);
        Check.finds(x, "ghi", "1:1");
        Check.finds(x, "\"ghi abc xyz\"", "1:1");
        Check.due("lowest code", 12, x.write(1, 32, 1));
        Check.due("highest code", 13, x.write(1, 126, 1));
    }

    private static void tellsChanged() {
        FileIndexer x = new FileIndexer();
        x.make(1, 0, false);
        x.work(1);
        x.write(1, 'a', 1);
        Check.dueText("events", "2/1", Check.events(x));
        Check.due("not yet read", 0, x.words(1));
    }

    /** 1 is a file, 2 a folder, 3 was a file. */
    private static FileIndexer start() {
        FileIndexer x = new FileIndexer();
        x.make(1, 0, false);
        x.make(2, 0, true);
        x.make(3, 0, false);
        x.remove(3);
        x.work(8);
        return x;
    }

    private static void refused(String call, Class<?> want, int file, long value, int n) {
        Check.refused(Promise03WriteTest::start, call, want, x -> x.write(file, value, n));
    }

    private static void refusesInOrder() {
        for (int file : new int[] {-1, 0, 2, 3, 4, 16, Integer.MIN_VALUE, Integer.MAX_VALUE}) {
            refused("write to " + file, Check.NO_SUCH, file, 'a', 1);
            refused("write none to " + file, Check.NO_SUCH, file, 'a', 0);
            refused("write code 0 to " + file, Check.NO_SUCH, file, 0, 1);
        }
        for (int n : new int[] {0, -1, 9, Integer.MIN_VALUE, Integer.MAX_VALUE}) {
            refused("write n " + n, Check.ARGUMENT, 1, Check.valueOf("aaaaaaaa"), n);
        }
        for (int code : new int[] {0, 31, 127, 128, 255}) {
            refused("write code " + code, Check.ARGUMENT, 1, code, 1);
            long first = (long) code << 56 | Check.valueOf("aaaaaaa");
            refused("write code first " + code, Check.ARGUMENT, 1, first, 8);
            long last = Check.valueOf("aaaaaaa") << 8 | code;
            refused("write code last " + code, Check.ARGUMENT, 1, last, 8);
        }
        FileIndexer x = start();
        Check.thrown(x, "a code out of range", Check.ARGUMENT, y -> y.write(1, 'a' << 8, 2));
        Check.due("nothing was written", 1, x.write(1, 'a', 1));
    }

    private static FileIndexer nearlyFull() {
        FileIndexer x = start();
        Check.write(x, 1, "a".repeat(56));
        x.work(1);
        return x;
    }

    private static void keepsToTheLimit() {
        Check.refused(Promise03WriteTest::nearlyFull, "61", Check.STATE,
            x -> x.write(1, Check.valueOf("bbbbb"), 5));
        Check.refused(Promise03WriteTest::nearlyFull, "61 and a code out of range", Check.ARGUMENT,
            x -> x.write(1, 'b', 5));
        FileIndexer x = nearlyFull();
        Check.due("60", 60, x.write(1, Check.valueOf("   b"), 4));
        Check.thrown(x, "behind 60", Check.STATE, y -> y.write(1, 'b', 1));
        x.work(1);
        Check.due("words", 2, x.words(1));
    }
}
