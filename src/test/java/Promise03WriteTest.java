/** Promise 3: write. */
public final class Promise03WriteTest {
    private static final int[] NO_FILES = {-1, 0, 2, 3, 4, 15, 16, 17, Integer.MIN_VALUE, Integer.MAX_VALUE};

    public static void main(String[] args) {
        addsTheLowestBytes();
        theMostSignificantFirst();
        answersHowLongItIs();
        tellsChanged();
        refusesWhatIsNoFile();
        refusesNumbersOutOfRange();
        refusesCodesOutOfRange();
        refusesMoreThanSixty();
        refusesInOrder();
        Check.end();
    }

    private static FileIndexer written(long value, int n) {
        FileIndexer x = new FileIndexer();
        x.make(1, 0, false);
        Check.due("write of " + n, n, x.write(1, value, n));
        x.work(1);
        return x;
    }

    /** "Adds the n (1 .. 8) lowest bytes of a value" */
    private static void addsTheLowestBytes() {
        String text = "abcdefgh";
        for (int n = 1; n <= 8; n++) {
            Check.finds(written(Check.valueOf(text), n), text.substring(8 - n), "1:1");
        }
        for (int n = 1; n <= 7; n++) {
            long highBytes = -1L << 8 * n;
            long value = highBytes | Check.valueOf(text.substring(0, n));
            Check.finds(written(value, n), text.substring(0, n), "1:1");
            Check.finds(written(value & ~highBytes, n), text.substring(0, n), "1:1");
        }
    }

    /** "the most significant first, to a file's content" */
    private static void theMostSignificantFirst() {
        FileIndexer x = written(Check.valueOf("ab"), 2);
        Check.finds(x, "ab", "1:1");
        Check.finds(x, "ba", "");
        x.write(1, Check.valueOf("c de"), 4);
        x.write(1, 'f', 1);
        x.work(1);
        Check.finds(x, "\"abc def\"", "1:1");
        x.make(2, 0, false);
        x.write(2, Check.valueOf("xyz"), 3);
        x.work(1);
        Check.finds(x, "xyz", "2:1");
        Check.finds(x, "\"abc def\"", "1:1");
    }

    /** "how long it is" */
    private static void answersHowLongItIs() {
        for (int n = 1; n <= 8; n++) {
            FileIndexer x = new FileIndexer();
            x.make(1, 0, false);
            for (int length = n; length <= 60; length += n) {
                Check.due("length by " + n, length, x.write(1, Check.valueOf("aaaaaaaa"), n));
            }
            int rest = 60 % n;
            if (rest > 0) {
                Check.due("the rest of " + rest, 60, x.write(1, Check.valueOf("aaaaaaaa"), rest));
            }
            Check.due("60 are there", 0, x.cut(1, 60));
        }
    }

    /** "CHANGED is told" */
    private static void tellsChanged() {
        FileIndexer x = new FileIndexer();
        x.make(1, 0, false);
        x.work(1);
        x.write(1, 'a', 1);
        Check.dueText("events", "2/1", Check.events(x));
        Check.due("not yet read", 0, x.words(1));
        x.work(1);
        x.write(1, ' ', 1);
        Check.dueText("of a blank too", "2/1", Check.events(x));
    }

    /** 1 is a file, 2 a folder, 3 was a file. */
    private static FileIndexer start() {
        FileIndexer x = new FileIndexer();
        x.make(1, 0, false);
        x.make(2, 0, true);
        x.make(3, 0, false);
        x.remove(3);
        x.work(8);
        return x;
    }

    private static void refused(String call, Class<?> want, int file, long value, int n) {
        Check.refused(Promise03WriteTest::start, call, want, x -> x.write(file, value, n));
    }

    /** "NoSuchElementException: no such file." */
    private static void refusesWhatIsNoFile() {
        for (int file : NO_FILES) {
            refused("write to " + file, Check.NO_SUCH, file, 'a', 1);
        }
    }

    /** "IllegalArgumentException: n .. out of range" */
    private static void refusesNumbersOutOfRange() {
        for (int n : new int[] {0, -1, 9, 10, 60, 256, Integer.MIN_VALUE, Integer.MAX_VALUE}) {
            refused("write n " + n, Check.ARGUMENT, 1, Check.valueOf("aaaaaaaa"), n);
        }
        Check.due("n 1", 1, start().write(1, Check.valueOf("aaaaaaaa"), 1));
        Check.due("n 8", 8, start().write(1, Check.valueOf("aaaaaaaa"), 8));
    }

    /** "or a code out of range", at each of the places that count */
    private static void refusesCodesOutOfRange() {
        for (int code : new int[] {0, 31, 127, 128, 255}) {
            for (int n = 1; n <= 8; n++) {
                for (int place = 0; place < n; place++) {
                    long value = Check.valueOf("aaaaaaaa") & ~(255L << 8 * place) | (long) code << 8 * place;
                    int bytes = n;
                    Check.thrown(start(), "code " + code + " at " + place + " of " + n, Check.ARGUMENT,
                        x -> x.write(1, value, bytes));
                }
            }
            refused("code " + code, Check.ARGUMENT, 1, code, 1);
            refused("code first " + code, Check.ARGUMENT, 1, (long) code << 56 | Check.valueOf("aaaaaaa"), 8);
            refused("code last " + code, Check.ARGUMENT, 1, Check.valueOf("aaaaaaa") << 8 | code, 8);
        }
        Check.due("code 32", 1, start().write(1, 32, 1));
        Check.due("code 126", 1, start().write(1, 126, 1));
        Check.due("codes 32 and 126 first and last", 8, start().write(1, Check.valueOf(" aaaaaa~"), 8));
        Check.due("codes 126 and 32 first and last", 8, start().write(1, Check.valueOf("~aaaaaa "), 8));
    }

    private static FileIndexer ofLength(int length) {
        FileIndexer x = start();
        Check.write(x, 1, "a".repeat(length));
        x.work(1);
        return x;
    }

    /** "IllegalStateException: it would be longer than 60." */
    private static void refusesMoreThanSixty() {
        for (int each = 1; each <= 8; each++) {
            int n = each;
            Check.due("just 60 by " + n, 60, ofLength(60 - n).write(1, Check.valueOf("bbbbbbbb"), n));
            Check.refused(() -> ofLength(61 - n), "just 61 by " + n, Check.STATE,
                x -> x.write(1, Check.valueOf("bbbbbbbb"), n));
            Check.refused(() -> ofLength(60), "behind 60 by " + n, Check.STATE,
                x -> x.write(1, Check.valueOf("bbbbbbbb"), n));
        }
    }

    private static void refusesInOrder() {
        for (int file : NO_FILES) {
            refused("no file and n 0: " + file, Check.NO_SUCH, file, 'a', 0);
            refused("no file and n 9: " + file, Check.NO_SUCH, file, 'a', 9);
            refused("no file and code 0: " + file, Check.NO_SUCH, file, 0, 1);
        }
        Check.refused(() -> ofLength(60), "too long and a code out of range", Check.ARGUMENT,
            x -> x.write(1, 31, 1));
        Check.refused(() -> ofLength(60), "too long and n out of range", Check.ARGUMENT,
            x -> x.write(1, Check.valueOf("aaaaaaaa"), 9));
        Check.refused(() -> ofLength(60), "too long and n 0", Check.ARGUMENT, x -> x.write(1, 'a', 0));
    }
}
