/** Promise 9: type. */
public final class Promise09TypeTest {
    private static final int[] NO_CODES = {31, 127, 0, -1, 128, 255, 256 + 'a', -'a', Integer.MIN_VALUE,
        Integer.MAX_VALUE};

    public static void main(String[] args) {
        answersItsLength();
        addsACharacter();
        refusesCodesOutOfRange();
        refusesTheFortyFirst();
        Check.end();
    }

    /** "Adds a character to the query: its length." */
    private static void answersItsLength() {
        FileIndexer x = new FileIndexer();
        for (int length = 1; length <= 40; length++) {
            Check.due("type", length, x.type('a'));
            Check.due("count", length, x.count(5));
        }
        for (int code = 32; code <= 126; code++) {
            Check.due("code " + code, 1, new FileIndexer().type(code));
        }
    }

    private static void addsACharacter() {
        FileIndexer x = TermsQueryTest.of("ab", "ba");
        x.type('a');
        x.type('b');
        Check.due("behind the others", 1, x.search(0));
        Check.due("found", 1, x.result(0, 0));
        Check.due("a new query begins", 1, x.type('b'));
        x.type('a');
        Check.due("without the old one", 1, x.search(0));
        Check.due("found", 2, x.result(0, 0));
    }

    private static FileIndexer full() {
        FileIndexer x = TermsQueryTest.of("a");
        Check.type(x, " ".repeat(39) + "a");
        return x;
    }

    private static FileIndexer nearlyFull() {
        FileIndexer x = TermsQueryTest.of("a");
        Check.type(x, " ".repeat(39));
        return x;
    }

    /** "IllegalArgumentException: code not 32 .. 126." It is tested before the length is. */
    private static void refusesCodesOutOfRange() {
        for (int code : NO_CODES) {
            Check.refused(FileIndexer::new, "type " + code, Check.ARGUMENT, x -> x.type(code));
            Check.refused(Promise09TypeTest::nearlyFull, "type as the 40th " + code, Check.ARGUMENT,
                x -> x.type(code));
            Check.refused(Promise09TypeTest::full, "type when full " + code, Check.ARGUMENT, x -> x.type(code));
        }
    }

    /** "IllegalStateException: 40 are there." */
    private static void refusesTheFortyFirst() {
        Check.due("the 40th", 40, nearlyFull().type('a'));
        for (int code : new int[] {' ', 'a', '~'}) {
            Check.refused(Promise09TypeTest::full, "the 41st " + code, Check.STATE, x -> x.type(code));
        }
        FileIndexer x = full();
        Check.thrown(x, "the 41st", Check.STATE, y -> y.type('b'));
        Check.due("all 40 are searched", 1, x.search(0));
        Check.due("then there is room", 1, x.type('a'));
    }
}
