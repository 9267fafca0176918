/** Promise 13: words. */
public final class Promise13WordsTest {
    public static void main(String[] args) {
        howManyWords();
        whenItWasRead();
        whileTheIndexIsLost();
        refusesWhatIsNotInTheIndex();
        Check.end();
    }

    /** "How many words a file of the index had" */
    private static void howManyWords() {
        for (int words = 0; words <= 30; words++) {
            Check.due("words", words, TermsReadingTest.read("a ".repeat(words)).words(1));
        }
        Check.due("in a title and behind it", 3, TermsReadingTest.read("#one two;three").words(1));
        Check.due("each time it comes", 3, TermsReadingTest.read("a a a").words(1));
        for (int file = 1; file <= 15; file++) {
            FileIndexer x = new FileIndexer();
            x.make(file, 0, false);
            Check.write(x, file, "a b");
            x.work(1);
            Check.due("of " + file, 2, x.words(file));
        }
    }

    /** "when it was read" */
    private static void whenItWasRead() {
        FileIndexer x = start();
        Check.due("words", 3, x.words(1));
        Check.write(x, 1, " four");
        Check.due("when it was read", 3, x.words(1));
        x.work(8);
        Check.due("read again", 4, x.words(1));
        x.remove(1);
        Check.due("still in the index", 4, x.words(1));
        x.make(1, 0, true);
        Check.due("be it a folder", 4, x.words(1));
        x.work(8);
        Check.thrown(x, "no longer", Check.NO_SUCH, y -> y.words(1));
    }

    private static void whileTheIndexIsLost() {
        FileIndexer x = start();
        for (int file = 6; file <= 14; file++) {
            x.make(file, 0, false);
        }
        Check.due("LOST", 1, x.count(4));
        Check.due("the index has what it had", 3, x.words(1));
        x.remove(1);
        Check.due("until it is read anew", 3, x.words(1));
        Check.thrown(x, "not in the index", Check.NO_SUCH, y -> y.words(6));
        x.rescan();
        Check.thrown(x, "no longer", Check.NO_SUCH, y -> y.words(1));
        Check.due("read by rescan", 0, x.words(6));
    }

    /** 1 and 15 were read, 2 is a folder, 3 was not read yet, 5 was removed and has left the index. */
    private static FileIndexer start() {
        FileIndexer x = new FileIndexer();
        x.make(1, 0, false);
        x.make(15, 0, false);
        x.make(5, 0, false);
        Check.write(x, 1, "#one two;three");
        x.work(8);
        x.remove(5);
        x.work(8);
        x.make(2, 0, true);
        x.make(3, 2, false);
        return x;
    }

    /** "NoSuchElementException: it is not in the index." */
    private static void refusesWhatIsNotInTheIndex() {
        for (int file : new int[] {-1, 0, 2, 3, 4, 5, 14, 16, 17, Integer.MIN_VALUE, Integer.MAX_VALUE}) {
            Check.refused(Promise13WordsTest::start, "words of " + file, Check.NO_SUCH, x -> x.words(file));
        }
        Check.due("the lowest", 3, start().words(1));
        Check.due("the highest, without words", 0, start().words(15));
    }
}
