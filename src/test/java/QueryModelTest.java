/** Every query of few characters, and its fault compared with the model's. */
public final class QueryModelTest {
    private static final String SIGNS = "a |-*\"1";
    private static final int LONGEST = 6;

    public static void main(String[] args) {
        tryAll("");
        tryLongWords();
        Check.end();
    }

    private static void tryAll(String text) {
        compare(text);
        if (text.length() < LONGEST) {
            for (char sign : SIGNS.toCharArray()) {
                tryAll(text + sign);
            }
        }
    }

    private static void tryLongWords() {
        for (int letters = 1; letters <= 10; letters++) {
            String word = "abcdefghij".substring(0, letters);
            compare(word);
            compare(word + "*");
            compare("-" + word + " " + word);
            compare("\"" + word + "\"");
            compare("\"a b c " + word + "\"");
            compare("\"a b c d " + word + "\"");
            compare("a|" + word + "|-\"" + word + " b\"");
        }
    }

    private static void compare(String text) {
        int place = Model.faultOf(text);
        Check.finds(new FileIndexer(), text, place < 0 ? "" : "fault at " + place);
    }
}
