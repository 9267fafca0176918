/** Promise 7: work, and how files are READ. */
public final class Promise07WorkTest {
    public static void main(String[] args) {
        takesFromTheFront();
        readsAsItIs();
        leavesTheIndex();
        cutsIntoWords();
        weighsTitles();
        refusesInOrder();
        Check.end();
    }

    private static void takesFromTheFront() {
        FileIndexer x = new FileIndexer();
        Check.due("nothing to do", 0, x.work(8));
        for (int file = 5; file >= 1; file--) {
            x.make(file, 0, false);
        }
        Check.due("two", 2, x.work(2));
        Check.dueText("the others wait", "1/3 1/2 1/1", Check.events(x));
        Check.due("in the index", 2, x.count(2));
        Check.due("5 was read", 0, x.words(5));
        Check.due("4 was read", 0, x.words(4));
        Check.due("the rest", 3, x.work(8));
        Check.due("in the index", 5, x.count(2));
        for (int file = 6; file <= 13; file++) {
            x.make(file, 0, false);
        }
        Check.due("a full queue", 8, x.work(8));
        Check.due("reads", 13, x.count(6));
    }

    private static void readsAsItIs() {
        FileIndexer x = new FileIndexer();
        x.make(1, 0, false);
        Check.write(x, 1, "old");
        x.cut(1, 0);
        Check.write(x, 1, "new one");
        Check.due("one event", 1, x.work(8));
        Check.due("one read", 1, x.count(6));
        Check.finds(x, "new", "1:1");
        x.remove(1);
        x.make(1, 0, false);
        Check.write(x, 1, "third");
        Check.finds(x, "new", "1:1");
        x.work(1);
        Check.finds(x, "new", "");
        Check.finds(x, "third", "1:1");
    }

    private static void leavesTheIndex() {
        FileIndexer x = new FileIndexer();
        x.make(1, 0, false);
        x.make(2, 0, false);
        x.work(8);
        x.remove(1);
        Check.due("still in the index", 0, x.words(1));
        x.make(1, 0, true);
        Check.due("removed, though a folder has its number", 1, x.work(1));
        Check.due("not in the index", -1, Check.wordsOrNone(x, 1));
        Check.due("the other stays", 1, x.count(2));
        Check.due("a removal is no read", 2, x.count(6));
    }

    private static FileIndexer read(String text) {
        FileIndexer x = new FileIndexer();
        x.make(1, 0, false);
        Check.write(x, 1, text);
        x.work(1);
        return x;
    }

    private static void cutsIntoWords() {
        String[] texts = {"", " ", "a", " a ", "a1b", "A@[`{Z", "12", "ab,cd", "a ".repeat(30),
            " a".repeat(30), "a".repeat(60), "z-Z_z", "az AZ"};
        int[] words = {0, 0, 1, 1, 2, 2, 0, 2, 30, 30, 1, 3, 2};
        for (int i = 0; i < texts.length; i++) {
            Check.due("words of <" + texts[i] + ">", words[i], read(texts[i]).words(1));
        }
        FileIndexer x = read("abcdefghIJ ABCDEFGH abcdefg");
        Check.finds(x, "AbCdEfGh", "1:2");
        Check.finds(x, "abcdefg", "1:1");
        Check.finds(x, "\"abcdefgh abcdefgh abcdefg\"", "1:1");
        Check.finds(read("a ".repeat(30)), "a", "1:30");
        Check.finds(read("#" + "a ".repeat(29) + "a"), "a", "1:90");
    }

    private static void weighsTitles() {
        String[] texts = {"a", "#a", "#a;a", "#;a", " #a", "a#a", "#a b;a;a", "#1;#a", ";#a", "#aa;a",
            "#b a", "a;#a", "#abcdefghijk a;a", "#a;"};
        int[] weights = {1, 3, 4, 1, 1, 2, 5, 1, 1, 1, 3, 2, 4, 3};
        for (int i = 0; i < texts.length; i++) {
            Check.finds(read(texts[i]), "a", "1:" + weights[i]);
        }
    }

    private static FileIndexer waiting() {
        FileIndexer x = new FileIndexer();
        x.make(1, 0, false);
        return x;
    }

    private static FileIndexer lost() {
        FileIndexer x = new FileIndexer();
        for (int file = 1; file <= 9; file++) {
            x.make(file, 0, false);
        }
        return x;
    }

    private static void refusesInOrder() {
        for (int n : new int[] {0, -1, 9, Integer.MIN_VALUE, Integer.MAX_VALUE}) {
            Check.refused(Promise07WorkTest::waiting, "work " + n, Check.ARGUMENT, x -> x.work(n));
            Check.refused(Promise07WorkTest::lost, "work LOST " + n, Check.ARGUMENT, x -> x.work(n));
        }
        Check.refused(Promise07WorkTest::lost, "work while LOST", Check.STATE, x -> x.work(1));
        FileIndexer x = lost();
        x.rescan();
        Check.due("work again", 0, x.work(1));
    }
}
