/** Terms: the index, and how a file is READ: its words, their places and their weights. */
public final class TermsReadingTest {
    public static void main(String[] args) {
        hasTheWordsOfThen();
        lettersMakeWords();
        longestRuns();
        onlyTheFirstEightCount();
        theEighthCounts();
        smallAndCapital();
        placesInOrder();
        titleBeginsWithTheSign();
        titleEndsAtTheFirstSemicolon();
        titleWithoutSemicolon();
        Check.end();
    }

    static FileIndexer read(String text) {
        FileIndexer x = new FileIndexer();
        x.make(1, 0, false);
        Check.write(x, 1, text);
        x.work(1);
        return x;
    }

    /** "THE INDEX has FILES that were READ, each with the words that its content had then." */
    private static void hasTheWordsOfThen() {
        FileIndexer x = new FileIndexer();
        x.make(1, 0, false);
        Check.write(x, 1, "old");
        Check.due("not read yet", 0, x.count(2));
        Check.finds(x, "old", "");
        x.work(1);
        Check.due("read", 1, x.count(2));
        Check.write(x, 1, " new");
        Check.finds(x, "old", "1:1");
        Check.finds(x, "new", "");
        Check.due("words of then", 1, x.words(1));
        x.cut(1, 0);
        Check.finds(x, "old", "1:1");
        x.work(1);
        Check.finds(x, "old", "");
        Check.due("read when empty", 0, x.words(1));
        Check.due("it is in the index, be it empty", 1, x.count(2));
    }

    /** "runs of letters": of every code it is known whether it parts words. */
    private static void lettersMakeWords() {
        for (int code = 32; code <= 126; code++) {
            boolean letter = "abcdefghijklmnopqrstuvwxyzABCDEFGHIJKLMNOPQRSTUVWXYZ".indexOf(code) >= 0;
            String sign = Character.toString((char) code);
            Check.due("words of " + sign, letter ? 1 : 0, read(sign).words(1));
            Check.due("words of a" + sign + "b", letter ? 1 : 2, read("a" + sign + "b").words(1));
        }
    }

    /** "its content is cut into WORDS, the longest runs" */
    private static void longestRuns() {
        String[] texts = {"", " ", "a", " a ", "a1b", "12", "ab,cd", "a  b", "a ".repeat(30), " a".repeat(30),
            " a".repeat(29), "a".repeat(60), " " + "a".repeat(59), "z-Z_z", "a" + " ".repeat(58) + "b"};
        int[] words = {0, 0, 1, 1, 2, 0, 2, 2, 30, 30, 29, 1, 1, 3, 2};
        for (int i = 0; i < texts.length; i++) {
            Check.due("words of <" + texts[i] + ">", words[i], read(texts[i]).words(1));
        }
        FileIndexer x = read("abc");
        Check.finds(x, "abc", "1:1");
        Check.finds(x, "ab", "");
        Check.finds(x, "bc", "");
        Check.finds(read("a ".repeat(30)), "a", "1:30");
    }

    /** "of which only the first 8 count" */
    private static void onlyTheFirstEightCount() {
        String letters = "abcdefghijklmnopqrstuvwxyzabcdefghijklmnopqrstuvwxyzabcdefgh";
        for (int length = 1; length <= 60; length++) {
            FileIndexer x = read(letters.substring(0, length));
            int counting = Math.min(8, length);
            Check.due("one word of " + length, 1, x.words(1));
            Check.finds(x, letters.substring(0, counting), "1:1");
            Check.finds(x, letters.substring(0, counting) + "*", "1:1");
            if (counting > 1) {
                Check.finds(x, letters.substring(0, counting - 1), "");
            }
            if (counting < 8) {
                Check.finds(x, letters.substring(0, counting + 1), "");
                Check.finds(x, letters.substring(0, counting + 1) + "*", "");
            }
        }
        Check.finds(read("abcdefghX abcdefghY abcdefgh"), "abcdefgh", "1:3");
        Check.finds(read("abcdefghX b"), "\"abcdefgh b\"", "1:1");
        Check.finds(read("abcdefghijklmnop"), "ijklmnop", "");
    }

    private static void theEighthCounts() {
        FileIndexer x = read("abcdefgh abcdefgi abcdefg abcdefgia");
        Check.finds(x, "abcdefgh", "1:1");
        Check.finds(x, "abcdefgi", "1:2");
        Check.finds(x, "abcdefg", "1:1");
        Check.finds(x, "abcdefgi*", "1:2");
        Check.finds(x, "abcdefg*", "1:4");
    }

    /** "small and capital letters being the same" */
    private static void smallAndCapital() {
        for (char small = 'a'; small <= 'z'; small++) {
            String little = Character.toString(small);
            String big = Character.toString((char) (small - 32));
            FileIndexer x = read(little + " " + big);
            Check.finds(x, little, "1:2");
            Check.finds(x, big, "1:2");
            Check.finds(x, big + "*", "1:2");
            Check.finds(x, "\"" + big + " " + little + "\"", "1:1");
        }
        Check.finds(read("AbCdEfGhI"), "aBcDeFgH", "1:1");
    }

    /** "they have PLACES 0, 1, .. in order" */
    private static void placesInOrder() {
        FileIndexer x = read("one;two##three 4 five");
        Check.finds(x, "\"one two three five\"", "1:1");
        Check.finds(x, "\"two one\"", "");
        Check.finds(x, "\"one three\"", "");
        Check.finds(x, "\"three five\"", "1:1");
        Check.finds(read("a b ".repeat(15)), "\"a b a b\"", "1:14");
        Check.finds(read("a b ".repeat(15)), "\"b a\"", "1:14");
    }

    private static void weighs(String text, int weight) {
        Check.finds(read(text), "a", "1:" + weight);
    }

    /** "If the content begins with the code of #" */
    private static void titleBeginsWithTheSign() {
        weighs("a", 1);
        weighs("#a", 3);
        weighs(" #a", 1);
        weighs("a#a", 2);
        weighs("a;#a", 2);
        weighs(";#a", 1);
        weighs("\"a", 1);
        weighs("$a", 1);
        weighs("##a", 3);
        Check.due("the sign alone", 0, read("#").words(1));
        Check.finds(read("#"), "-a", "1:0");
    }

    /** "its TITLE is what stands before the first code of ;": "words that begin there have the WEIGHT 3, others 1" */
    private static void titleEndsAtTheFirstSemicolon() {
        weighs("#a;", 3);
        weighs("#;a", 1);
        weighs("#a;a", 4);
        weighs("# a ; a", 4);
        weighs("#a;a;a", 5);
        weighs("#b;a;a", 2);
        weighs("#a:a", 6);
        weighs("#a<a", 6);
        weighs("#a b a;a", 7);
        weighs("#abcdefghijk a;a", 4);
        weighs("#;a;#a", 2);
        weighs("#" + "b".repeat(56) + " a;", 3);
        weighs("#" + "b".repeat(56) + ";a;", 1);
        Check.finds(read("#abc;abc"), "abc", "1:4");
        Check.finds(read("#abc;abc"), "\"abc abc\"", "1:3");
    }

    /** "(or all of it)" */
    private static void titleWithoutSemicolon() {
        weighs("#b a", 3);
        weighs("#a" + " ".repeat(57) + "a", 6);
        weighs("#" + "a ".repeat(29) + "a", 90);
        FileIndexer x = read("#a b");
        Check.finds(x, "b", "1:3");
        x.write(1, ';', 1);
        x.write(1, 'b', 1);
        x.work(1);
        Check.finds(x, "b", "1:4");
        x.cut(1, 4);
        x.work(1);
        Check.finds(x, "b", "1:3");
    }
}
