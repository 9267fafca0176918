/** Promise 4: cut. */
public final class Promise04CutTest {
    public static void main(String[] args) {
        keepsOnlyTheFirst();
        answersHowManyWent();
        tellsChangedIfAnyDid();
        refusesWhatIsNoFile();
        refusesNumbersOutOfRange();
        Check.end();
    }

    /** "Keeps only the first n characters of a file" */
    private static void keepsOnlyTheFirst() {
        FileIndexer x = new FileIndexer();
        x.make(1, 0, false);
        Check.write(x, 1, "one two three");
        x.work(1);
        x.cut(1, 7);
        Check.due("as it was read", 3, x.words(1));
        x.work(1);
        Check.due("words", 2, x.words(1));
        Check.finds(x, "\"one two\"", "1:1");
        Check.due("written behind the cut", 8, x.write(1, 's', 1));
        x.work(1);
        Check.finds(x, "twos", "1:1");
        x.cut(1, 1);
        x.work(1);
        Check.finds(x, "o", "1:1");
        x.cut(1, 0);
        x.work(1);
        Check.due("no words", 0, x.words(1));
    }

    private static FileIndexer ofLength(int length) {
        FileIndexer x = new FileIndexer();
        x.make(1, 0, false);
        Check.write(x, 1, "a".repeat(length));
        x.work(1);
        return x;
    }

    /** "how many went" */
    private static void answersHowManyWent() {
        for (int length : new int[] {0, 1, 2, 59, 60}) {
            for (int n = 0; n <= length; n++) {
                FileIndexer x = ofLength(length);
                Check.due("cut " + length + " to " + n, length - n, x.cut(1, n));
                Check.due("what is left", 0, x.cut(1, n));
                int more = n + 1;
                Check.thrown(x, "no more is left", Check.ARGUMENT, y -> y.cut(1, more));
            }
        }
    }

    /** "CHANGED is told if any did" */
    private static void tellsChangedIfAnyDid() {
        for (int length : new int[] {0, 1, 2, 60}) {
            for (int n = 0; n <= length; n++) {
                FileIndexer x = ofLength(length);
                x.cut(1, n);
                Check.dueText("cut " + length + " to " + n, n < length ? "2/1" : "", Check.events(x));
            }
        }
    }

    /** 1 is a file of 3 characters, 2 a folder, 3 was a file of 1 character, 15 is an empty file. */
    private static FileIndexer start() {
        FileIndexer x = new FileIndexer();
        x.make(1, 0, false);
        x.make(2, 0, true);
        x.make(3, 0, false);
        x.make(15, 0, false);
        Check.write(x, 1, "abc");
        Check.write(x, 3, "d");
        x.remove(3);
        x.work(8);
        return x;
    }

    /** "NoSuchElementException: no such file." It is tested before n is. */
    private static void refusesWhatIsNoFile() {
        for (int file : new int[] {-1, 0, 2, 3, 4, 14, 16, 17, Integer.MIN_VALUE, Integer.MAX_VALUE}) {
            for (int n : new int[] {0, 1, -1, 61}) {
                Check.refused(Promise04CutTest::start, "cut of " + file + " to " + n, Check.NO_SUCH,
                    x -> x.cut(file, n));
            }
        }
        Check.due("the highest file", 0, start().cut(15, 0));
    }

    /** "IllegalArgumentException: n not 0 .. its length." */
    private static void refusesNumbersOutOfRange() {
        for (int n : new int[] {-1, 4, 5, 60, 61, Integer.MIN_VALUE, Integer.MAX_VALUE}) {
            Check.refused(Promise04CutTest::start, "cut to " + n, Check.ARGUMENT, x -> x.cut(1, n));
        }
        for (int n : new int[] {-1, 1, 3, 60, Integer.MIN_VALUE, Integer.MAX_VALUE}) {
            Check.refused(Promise04CutTest::start, "cut of an empty file to " + n, Check.ARGUMENT,
                x -> x.cut(15, n));
        }
        Check.refused(() -> ofLength(60), "cut of 60 to 61", Check.ARGUMENT, x -> x.cut(1, 61));
        Check.refused(() -> ofLength(60), "cut of 60 to -1", Check.ARGUMENT, x -> x.cut(1, -1));
        Check.due("to its length", 0, start().cut(1, 3));
        Check.due("to one less", 1, start().cut(1, 2));
        Check.due("to 0", 3, start().cut(1, 0));
    }
}
