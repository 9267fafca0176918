import java.util.NoSuchElementException;

/**
 * An indexer for files: a tree is watched, changes are told as events that are put together, files
 * are taken into an index word by word as they are read, and queries by text find and rank them.
 */
public final class FileIndexer {
    private static final int NODES = 16;
    private static final int ROOT = 0;
    private static final int LOWEST_CODE = 32;
    private static final int HIGHEST_CODE = 126;
    private static final int CONTENT_LIMIT = 60;
    private static final int WRITE_LIMIT = 8;
    private static final int LETTERS = 8;

    private static final int CREATED = 1;
    private static final int CHANGED = 2;
    private static final int REMOVED = 3;
    private static final int QUEUE_LIMIT = 8;

    private static final int QUERY_LIMIT = 40;
    private static final int PHRASE_LIMIT = 4;
    private static final int NO_FAULT = -1;
    private static final int UNFIT = -1;

    private final Tree tree;
    private final Queue queue;
    private final Index index;
    private final Query query;
    private final Ranking ranking;
    private int faultPlace;

    public FileIndexer() {
        tree = new Tree();
        queue = new Queue();
        index = new Index();
        query = new Query();
        ranking = new Ranking();
        faultPlace = NO_FAULT;
    }

    public int make(int node, int parent, boolean folder)
            throws IllegalArgumentException, IllegalStateException {
        if (!isNodeBelowRoot(node) || !isNode(parent)) {
            throw new IllegalArgumentException();
        }
        if (tree.isThere(node) || !tree.isFolder(parent)) {
            throw new IllegalStateException();
        }
        tree.put(node, parent, folder);
        if (!folder) {
            queue.tell(node, CREATED);
        }
        return 1;
    }

    public int write(int file, long value, int n)
            throws NoSuchElementException, IllegalArgumentException, IllegalStateException {
        if (!tree.isFile(file)) {
            throw new NoSuchElementException();
        }
        if (n < 1 || n > WRITE_LIMIT || !areCodes(value, n)) {
            throw new IllegalArgumentException();
        }
        if (tree.lengthOf(file) + n > CONTENT_LIMIT) {
            throw new IllegalStateException();
        }
        for (int i = n - 1; i >= 0; i--) {
            tree.append(file, byteOf(value, i));
        }
        queue.tell(file, CHANGED);
        return tree.lengthOf(file);
    }

    public int cut(int file, int n) throws NoSuchElementException, IllegalArgumentException {
        if (!tree.isFile(file)) {
            throw new NoSuchElementException();
        }
        if (n < 0 || n > tree.lengthOf(file)) {
            throw new IllegalArgumentException();
        }
        int gone = tree.lengthOf(file) - n;
        if (gone > 0) {
            tree.shorten(file, n);
            queue.tell(file, CHANGED);
        }
        return gone;
    }

    public int remove(int node) throws IllegalArgumentException, NoSuchElementException {
        if (!isNodeBelowRoot(node)) {
            throw new IllegalArgumentException();
        }
        if (!tree.isThere(node)) {
            throw new NoSuchElementException();
        }
        int gone = 0;
        for (int each = 1; each < NODES; each++) {
            if (each == node || tree.isWithin(each, node)) {
                removeOne(each);
                gone++;
            }
        }
        return gone;
    }

    public int move(int node, int parent)
            throws IllegalArgumentException, NoSuchElementException, IllegalStateException {
        if (!isNodeBelowRoot(node) || !isNode(parent)) {
            throw new IllegalArgumentException();
        }
        if (!tree.isThere(node) || !tree.isFolder(parent)) {
            throw new NoSuchElementException();
        }
        if (parent == node || tree.isWithin(parent, node)) {
            throw new IllegalStateException();
        }
        if (tree.parentOf(node) == parent) {
            return 0;
        }
        tree.hang(node, parent);
        return 1;
    }

    public int work(int n) throws IllegalArgumentException, IllegalStateException {
        if (n < 1 || n > QUEUE_LIMIT) {
            throw new IllegalArgumentException();
        }
        if (queue.isLost()) {
            throw new IllegalStateException();
        }
        int taken = Math.min(n, queue.size());
        for (int i = 0; i < taken; i++) {
            follow(queue.kindAt(0), queue.fileAt(0));
            queue.drop(0);
        }
        return taken;
    }

    public int rescan() {
        int found = 0;
        for (int node = 1; node < NODES; node++) {
            if (tree.isFile(node)) {
                readFile(node);
                found++;
            } else {
                index.forget(node);
            }
        }
        queue.startAnew();
        return found;
    }

    public int type(int code) throws IllegalArgumentException, IllegalStateException {
        if (!isCode(code)) {
            throw new IllegalArgumentException();
        }
        if (query.length() >= QUERY_LIMIT) {
            throw new IllegalStateException();
        }
        query.append(code);
        return query.length();
    }

    public int search(int folder) throws NoSuchElementException, IllegalArgumentException {
        if (!tree.isFolder(folder)) {
            throw new NoSuchElementException();
        }
        ranking.clear();
        faultPlace = query.parse();
        query.clearText();
        if (faultPlace != NO_FAULT) {
            throw new IllegalArgumentException();
        }
        for (int file = 1; file < NODES; file++) {
            if (index.has(file) && isSearched(file, folder)) {
                rank(file);
            }
        }
        return ranking.size();
    }

    public int fault() {
        return faultPlace;
    }

    public int result(int k, int what) throws NoSuchElementException, IllegalArgumentException {
        if (k < 0 || k >= ranking.size()) {
            throw new NoSuchElementException();
        }
        if (what != 0 && what != 1) {
            throw new IllegalArgumentException();
        }
        return what == 0 ? ranking.fileAt(k) : ranking.scoreAt(k);
    }

    public int words(int file) throws NoSuchElementException {
        if (!index.has(file)) {
            throw new NoSuchElementException();
        }
        return index.entryOf(file).size();
    }

    public int event(int k) throws NoSuchElementException {
        if (k < 0 || k >= queue.size()) {
            throw new NoSuchElementException();
        }
        return 16 * queue.kindAt(k) + queue.fileAt(k);
    }

    public int count(int what) throws IllegalArgumentException {
        switch (what) {
            case 0:
                return tree.nodesThere();
            case 1:
                return tree.filesThere();
            case 2:
                return index.size();
            case 3:
                return queue.size();
            case 4:
                return queue.isLost() ? 1 : 0;
            case 5:
                return query.length();
            case 6:
                return index.timesRead();
            default:
                throw new IllegalArgumentException();
        }
    }

    private void removeOne(int node) {
        boolean wasFile = tree.isFile(node);
        tree.drop(node);
        if (wasFile) {
            queue.tell(node, REMOVED);
        }
    }

    private void follow(int kind, int file) {
        if (kind == REMOVED) {
            index.forget(file);
        } else {
            readFile(file);
        }
    }

    private void readFile(int file) {
        index.read(file, tree.contentOf(file), tree.lengthOf(file));
    }

    // The root's search takes removed files too, for the index may lag behind the tree.
    private boolean isSearched(int file, int folder) {
        return folder == ROOT || tree.isWithin(file, folder);
    }

    private void rank(int file) {
        int score = query.scoreOf(index.entryOf(file));
        if (score != UNFIT) {
            ranking.add(file, score);
        }
    }

    private static boolean isNode(int node) {
        return node >= 0 && node < NODES;
    }

    private static boolean isNodeBelowRoot(int node) {
        return node >= 1 && node < NODES;
    }

    private static boolean isCode(int code) {
        return code >= LOWEST_CODE && code <= HIGHEST_CODE;
    }

    private static int byteOf(long value, int place) {
        return (int) (value >>> (8 * place)) & 255;
    }

    private static boolean areCodes(long value, int n) {
        for (int i = 0; i < n; i++) {
            if (!isCode(byteOf(value, i))) {
                return false;
            }
        }
        return true;
    }

    private static boolean isLetter(int code) {
        return code >= 'a' && code <= 'z' || code >= 'A' && code <= 'Z';
    }

    /**
     * A word is kept in a long, its first letter in the highest byte: so two words are compared, and
     * the beginning of one with another, without a loop over their letters.
     */
    private static long withLetter(long word, int place, int letter) {
        long small = letter | 32;
        return word | small << 8 * (LETTERS - 1 - place);
    }

    /** The nodes and the contents of the files. */
    private static final class Tree {
        private static final int ABSENT = 0;
        private static final int FOLDER = 1;
        private static final int FILE = 2;

        private final int[] states = new int[NODES];
        private final int[] parents = new int[NODES];
        private final int[][] contents = new int[NODES][CONTENT_LIMIT];
        private final int[] lengths = new int[NODES];

        Tree() {
            states[ROOT] = FOLDER;
        }

        boolean isThere(int node) {
            return isNode(node) && states[node] != ABSENT;
        }

        boolean isFolder(int node) {
            return isNode(node) && states[node] == FOLDER;
        }

        boolean isFile(int node) {
            return isNode(node) && states[node] == FILE;
        }

        int parentOf(int node) {
            return parents[node];
        }

        // A dropped node keeps its parent until it is made again: what was within it and is still
        // to be removed finds its way up through it.
        boolean isWithin(int node, int folder) {
            if (!isThere(node)) {
                return false;
            }
            int at = node;
            for (int steps = 0; steps < NODES && at != ROOT; steps++) {
                at = parents[at];
                if (at == folder) {
                    return true;
                }
            }
            return false;
        }

        void put(int node, int parent, boolean folder) {
            states[node] = folder ? FOLDER : FILE;
            parents[node] = parent;
            lengths[node] = 0;
        }

        void hang(int node, int parent) {
            parents[node] = parent;
        }

        void drop(int node) {
            states[node] = ABSENT;
        }

        int[] contentOf(int file) {
            return contents[file];
        }

        int lengthOf(int file) {
            return lengths[file];
        }

        void append(int file, int code) {
            contents[file][lengths[file]] = code;
            lengths[file]++;
        }

        void shorten(int file, int length) {
            lengths[file] = length;
        }

        int nodesThere() {
            int found = 0;
            for (int node = 0; node < NODES; node++) {
                found += isThere(node) ? 1 : 0;
            }
            return found;
        }

        int filesThere() {
            int found = 0;
            for (int node = 0; node < NODES; node++) {
                found += isFile(node) ? 1 : 0;
            }
            return found;
        }
    }

    /** The events that wait, oldest first, and whether the index is LOST. */
    private static final class Queue {
        private final int[] kinds = new int[QUEUE_LIMIT];
        private final int[] files = new int[QUEUE_LIMIT];
        private int size;
        private boolean lost;

        int size() {
            return size;
        }

        boolean isLost() {
            return lost;
        }

        int kindAt(int place) {
            return kinds[place];
        }

        int fileAt(int place) {
            return files[place];
        }

        void startAnew() {
            size = 0;
            lost = false;
        }

        void tell(int file, int kind) {
            if (lost) {
                return;
            }
            int place = placeOf(file);
            if (place < size) {
                putTogether(place, kind);
            } else if (size < QUEUE_LIMIT) {
                kinds[size] = kind;
                files[size] = file;
                size++;
            } else {
                size = 0;
                lost = true;
            }
        }

        void drop(int place) {
            size--;
            for (int i = place; i < size; i++) {
                kinds[i] = kinds[i + 1];
                files[i] = files[i + 1];
            }
        }

        // The size stands for a file without an event.
        private int placeOf(int file) {
            for (int i = 0; i < size; i++) {
                if (files[i] == file) {
                    return i;
                }
            }
            return size;
        }

        // In all other pairs that can come the event that waits says enough already.
        private void putTogether(int place, int kind) {
            int waiting = kinds[place];
            if (waiting == CREATED && kind == REMOVED) {
                drop(place);
            } else if (waiting == CHANGED && kind == REMOVED) {
                kinds[place] = REMOVED;
            } else if (waiting == REMOVED && kind == CREATED) {
                kinds[place] = CHANGED;
            }
        }
    }

    /** The files that were READ. */
    private static final class Index {
        private final Entry[] entries = new Entry[NODES];
        private final boolean[] held = new boolean[NODES];
        private int timesRead;

        Index() {
            for (int i = 0; i < NODES; i++) {
                entries[i] = new Entry();
            }
        }

        boolean has(int file) {
            return isNode(file) && held[file];
        }

        Entry entryOf(int file) {
            return entries[file];
        }

        void read(int file, int[] content, int length) {
            entries[file].take(content, length);
            held[file] = true;
            timesRead++;
        }

        void forget(int file) {
            held[file] = false;
        }

        int size() {
            int found = 0;
            for (int file = 0; file < NODES; file++) {
                found += held[file] ? 1 : 0;
            }
            return found;
        }

        int timesRead() {
            return timesRead;
        }
    }

    /** The words that a file had when it was read, each at its place. */
    private static final class Entry {
        // Two words have at least one character between them.
        private static final int WORDS_LIMIT = CONTENT_LIMIT / 2;
        private static final int TITLE_WEIGHT = 3;
        private static final int PLAIN_WEIGHT = 1;

        private final long[] spellings = new long[WORDS_LIMIT];
        private final int[] weights = new int[WORDS_LIMIT];
        private int size;

        int size() {
            return size;
        }

        long wordAt(int place) {
            return spellings[place];
        }

        int weightAt(int place) {
            return weights[place];
        }

        void take(int[] content, int length) {
            size = 0;
            int titleEnd = titleEndOf(content, length);
            int letters = 0;
            long word = 0;
            for (int i = 0; i < length; i++) {
                if (isLetter(content[i])) {
                    if (letters < LETTERS) {
                        word = withLetter(word, letters, content[i]);
                    }
                    letters++;
                }
                boolean runEnds = i + 1 == length || !isLetter(content[i + 1]);
                if (letters > 0 && runEnds) {
                    add(word, i + 1 - letters < titleEnd ? TITLE_WEIGHT : PLAIN_WEIGHT);
                    letters = 0;
                    word = 0;
                }
            }
        }

        private void add(long word, int weight) {
            spellings[size] = word;
            weights[size] = weight;
            size++;
        }

        private static int titleEndOf(int[] content, int length) {
            if (length == 0 || content[0] != '#') {
                return 0;
            }
            for (int i = 0; i < length; i++) {
                if (content[i] == ';') {
                    return i;
                }
            }
            return length;
        }
    }

    /** A term of a query: one word, the beginning of words, or the words of a phrase. */
    private static final class Term {
        private final long[] spellings = new long[PHRASE_LIMIT];
        private int size;
        private int alternative;
        private boolean unwanted;
        private long compared;

        void begin(int number) {
            size = 0;
            alternative = number;
            unwanted = false;
            compared = -1;
        }

        boolean isOf(int number) {
            return alternative == number;
        }

        boolean isUnwanted() {
            return unwanted;
        }

        void forbid() {
            unwanted = true;
        }

        boolean isEmpty() {
            return size == 0;
        }

        void add(long word) {
            spellings[size] = word;
            size++;
        }

        void compareOnly(int letters) {
            compared = -1L << 8 * (LETTERS - letters);
        }

        // A place weighs at least 1, so the sum is 0 just where there is no hit.
        int weightIn(Entry entry) {
            int sum = 0;
            for (int place = 0; place + size <= entry.size(); place++) {
                sum += hits(entry, place) ? entry.weightAt(place) : 0;
            }
            return sum;
        }

        private boolean hits(Entry entry, int place) {
            for (int i = 0; i < size; i++) {
                if ((entry.wordAt(place + i) & compared) != spellings[i]) {
                    return false;
                }
            }
            return true;
        }
    }

    /** The query's text as it is typed, and the terms that its last parsing found in it. */
    private static final class Query {
        // Two terms have at least one character between them, and behind a bar that ends the text
        // one more is looked for.
        private static final int TERMS_LIMIT = QUERY_LIMIT / 2 + 1;
        private static final int END = 0;

        private final int[] text = new int[QUERY_LIMIT];
        private int length;
        private final Term[] terms = new Term[TERMS_LIMIT];
        private int termsFound;
        private int alternatives;
        private int at;
        private int firstFault;

        Query() {
            for (int i = 0; i < TERMS_LIMIT; i++) {
                terms[i] = new Term();
            }
        }

        int length() {
            return length;
        }

        void append(int code) {
            text[length] = code;
            length++;
        }

        void clearText() {
            length = 0;
        }

        int parse() {
            at = 0;
            firstFault = NO_FAULT;
            termsFound = 0;
            alternatives = 0;
            parseAlternative();
            for (int bars = 0; bars < QUERY_LIMIT && !isFaulty() && next() == '|'; bars++) {
                at++;
                parseAlternative();
            }
            return firstFault;
        }

        int scoreOf(Entry entry) {
            int score = UNFIT;
            for (int number = 0; number < alternatives; number++) {
                int part = partOf(entry, number);
                if (part != UNFIT) {
                    score = Math.max(score, 0) + part;
                }
            }
            return score;
        }

        // A fitting file has no hit for an unwanted term, which so adds nothing.
        private int partOf(Entry entry, int number) {
            int score = 0;
            for (int i = 0; i < termsFound; i++) {
                if (terms[i].isOf(number)) {
                    int weight = terms[i].weightIn(entry);
                    boolean hit = weight > 0;
                    if (hit == terms[i].isUnwanted()) {
                        return UNFIT;
                    }
                    score += weight;
                }
            }
            return score;
        }

        private boolean isFaulty() {
            return firstFault != NO_FAULT;
        }

        private int next() {
            return at < length ? text[at] : END;
        }

        private boolean atAlternativeEnd() {
            return next() == END || next() == '|';
        }

        private void skipBlanks() {
            while (at < length && text[at] == ' ') {
                at++;
            }
        }

        // Leaves at on a bar or the end, or a fault.
        private void parseAlternative() {
            skipBlanks();
            parseTerm();
            for (int i = 0; i < QUERY_LIMIT && !isFaulty() && !atAlternativeEnd(); i++) {
                parseTerm();
            }
            alternatives++;
        }

        private void parseTerm() {
            Term term = terms[termsFound];
            term.begin(alternatives);
            termsFound++;
            if (next() == '-') {
                term.forbid();
                at++;
            }
            if (next() == '"') {
                at++;
                parsePhrase(term);
            } else {
                parseWordOrBeginning(term);
            }
            if (!isFaulty()) {
                endTerm();
            }
        }

        private void endTerm() {
            if (next() != ' ' && !atAlternativeEnd()) {
                firstFault = at;
            }
            skipBlanks();
        }

        private void parseWordOrBeginning(Term term) {
            int start = at;
            parseWord(term);
            if (!isFaulty() && next() == '*') {
                term.compareOnly(at - start);
                at++;
            }
        }

        private void parsePhrase(Term term) {
            skipBlanks();
            for (int i = 0; i < PHRASE_LIMIT && !isFaulty() && isLetter(next()); i++) {
                parseWord(term);
                skipBlanks();
            }
            if (isFaulty()) {
                return;
            }
            if (term.isEmpty() || next() != '"') {
                firstFault = at;
            } else {
                at++;
            }
        }

        private void parseWord(Term term) {
            long word = 0;
            int letters = 0;
            while (letters < LETTERS && isLetter(next())) {
                word = withLetter(word, letters, next());
                letters++;
                at++;
            }
            if (letters == 0 || isLetter(next())) {
                firstFault = at;
            } else {
                term.add(word);
            }
        }
    }

    /** The results of the last search, by falling score, then rising number. */
    private static final class Ranking {
        private final int[] files = new int[NODES];
        private final int[] scores = new int[NODES];
        private int size;

        int size() {
            return size;
        }

        int fileAt(int place) {
            return files[place];
        }

        int scoreAt(int place) {
            return scores[place];
        }

        void clear() {
            size = 0;
        }

        // Files come by rising number, so a new one goes behind its equals.
        void add(int file, int score) {
            int place = size;
            while (place > 0 && scores[place - 1] < score) {
                files[place] = files[place - 1];
                scores[place] = scores[place - 1];
                place--;
            }
            files[place] = file;
            scores[place] = score;
            size++;
        }
    }
}
