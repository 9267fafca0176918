import java.util.ArrayList;
import java.util.Comparator;
import java.util.LinkedHashMap;
import java.util.List;
import java.util.Map;
import java.util.NoSuchElementException;
import java.util.TreeMap;
import java.util.regex.Matcher;
import java.util.regex.Pattern;

/**
 * The document once more, told by other means (maps, texts, regular expressions), to be compared
 * with the program.
 */
final class Model {
    private static final String WORD = "[A-Za-z]{1,8}";
    private static final String PHRASE = "\" *" + WORD + "(?: +" + WORD + "){0,3} *\"";
    private static final String TERM = "-?(?:" + WORD + "\\*?|" + PHRASE + ")";
    private static final String ALTERNATIVE = " *" + TERM + "(?: +" + TERM + ")* *";
    private static final Pattern QUERY = Pattern.compile(ALTERNATIVE + "(?:\\|" + ALTERNATIVE + ")*");
    private static final Pattern RUN = Pattern.compile("[A-Za-z]+");

    private static final class Node {
        boolean folder;
        int parent;
        String content = "";
    }

    private record Word(String letters, int weight) {
    }

    private record Found(int file, int score) {
    }

    private final Map<Integer, Node> nodes = new TreeMap<>();
    private final Map<Integer, Integer> events = new LinkedHashMap<>();
    private final Map<Integer, List<Word>> index = new TreeMap<>();
    private boolean lost;
    private int reads;
    private String query = "";
    private int fault = -1;
    private List<Found> found = new ArrayList<>();

    Model() {
        Node root = new Node();
        root.folder = true;
        root.parent = -1;
        nodes.put(0, root);
    }

    int make(int node, int parent, boolean folder) {
        argument(node >= 1 && node <= 15 && parent >= 0 && parent <= 15);
        state(!nodes.containsKey(node) && isFolder(parent));
        Node made = new Node();
        made.folder = folder;
        made.parent = parent;
        nodes.put(node, made);
        if (!folder) {
            tell(node, 1);
        }
        return 1;
    }

    int write(int file, long value, int n) {
        there(isFile(file));
        argument(n >= 1 && n <= 8);
        String added = "";
        for (int i = 0; i < n; i++) {
            long code = value >> 8 * i & 0xFF;
            argument(code >= 32 && code <= 126);
            added = (char) code + added;
        }
        String content = nodes.get(file).content + added;
        state(content.length() <= 60);
        nodes.get(file).content = content;
        tell(file, 2);
        return content.length();
    }

    int cut(int file, int n) {
        there(isFile(file));
        String content = nodes.get(file).content;
        argument(n >= 0 && n <= content.length());
        nodes.get(file).content = content.substring(0, n);
        if (n < content.length()) {
            tell(file, 2);
        }
        return content.length() - n;
    }

    int remove(int node) {
        argument(node >= 1 && node <= 15);
        there(nodes.containsKey(node));
        List<Integer> going = new ArrayList<>();
        for (int each : nodes.keySet()) {
            if (each == node || within(each, node)) {
                going.add(each);
            }
        }
        for (int each : going) {
            if (!nodes.remove(each).folder) {
                tell(each, 3);
            }
        }
        return going.size();
    }

    int move(int node, int parent) {
        argument(node >= 1 && node <= 15 && parent >= 0 && parent <= 15);
        there(nodes.containsKey(node) && isFolder(parent));
        state(parent != node && !within(parent, node));
        int old = nodes.get(node).parent;
        nodes.get(node).parent = parent;
        return old == parent ? 0 : 1;
    }

    int work(int n) {
        argument(n >= 1 && n <= 8);
        state(!lost);
        int taken = 0;
        while (taken < n && !events.isEmpty()) {
            int file = events.keySet().iterator().next();
            if (events.remove(file) == 3) {
                index.remove(file);
            } else {
                read(file);
            }
            taken++;
        }
        return taken;
    }

    int rescan() {
        index.clear();
        events.clear();
        lost = false;
        for (int node : nodes.keySet()) {
            if (isFile(node)) {
                read(node);
            }
        }
        return index.size();
    }

    int type(int code) {
        argument(code >= 32 && code <= 126);
        state(query.length() < 40);
        query += (char) code;
        return query.length();
    }

    int search(int folder) {
        there(isFolder(folder));
        String text = query;
        query = "";
        found = new ArrayList<>();
        fault = faultOf(text);
        argument(fault < 0);
        for (int file : index.keySet()) {
            int score = scoreOf(text, index.get(file));
            if (score >= 0 && (folder == 0 || nodes.containsKey(file) && within(file, folder))) {
                found.add(new Found(file, score));
            }
        }
        found.sort(Comparator.comparingInt((Found f) -> -f.score()).thenComparingInt(Found::file));
        return found.size();
    }

    int fault() {
        return fault;
    }

    int result(int k, int what) {
        there(k >= 0 && k < found.size());
        argument(what == 0 || what == 1);
        return what == 0 ? found.get(k).file() : found.get(k).score();
    }

    int words(int file) {
        there(index.containsKey(file));
        return index.get(file).size();
    }

    int event(int k) {
        there(k >= 0 && k < events.size());
        int file = new ArrayList<>(events.keySet()).get(k);
        return 16 * events.get(file) + file;
    }

    int count(int what) {
        argument(what >= 0 && what <= 6);
        int files = (int) nodes.values().stream().filter(node -> !node.folder).count();
        int[] counts = {nodes.size(), files, index.size(), events.size(), lost ? 1 : 0, query.length(), reads};
        return counts[what];
    }

    private static void argument(boolean right) {
        if (!right) {
            throw new IllegalArgumentException();
        }
    }

    private static void state(boolean right) {
        if (!right) {
            throw new IllegalStateException();
        }
    }

    private static void there(boolean right) {
        if (!right) {
            throw new NoSuchElementException();
        }
    }

    private boolean isFolder(int node) {
        return nodes.containsKey(node) && nodes.get(node).folder;
    }

    private boolean isFile(int node) {
        return nodes.containsKey(node) && !nodes.get(node).folder;
    }

    private boolean within(int node, int folder) {
        int parent = nodes.get(node).parent;
        return parent == folder || parent >= 0 && within(parent, folder);
    }

    private void tell(int file, int kind) {
        if (lost) {
            return;
        }
        if (!events.containsKey(file)) {
            events.put(file, kind);
            if (events.size() > 8) {
                events.clear();
                lost = true;
            }
            return;
        }
        switch (10 * events.get(file) + kind) {
            case 12 -> events.put(file, 1);
            case 13 -> events.remove(file);
            case 22 -> events.put(file, 2);
            case 23 -> events.put(file, 3);
            case 31 -> events.put(file, 2);
            default -> throw new AssertionError("a pair that the document does not name");
        }
    }

    private void read(int file) {
        String content = nodes.get(file).content;
        int bodyFrom = 0;
        if (content.startsWith("#")) {
            bodyFrom = content.contains(";") ? content.indexOf(';') : content.length();
        }
        List<Word> words = new ArrayList<>();
        Matcher run = RUN.matcher(content);
        while (run.find()) {
            String letters = run.group().toLowerCase();
            letters = letters.substring(0, Math.min(8, letters.length()));
            words.add(new Word(letters, run.start() < bodyFrom ? 3 : 1));
        }
        index.put(file, words);
        reads++;
    }

    /** The first character with which no query at all could begin so, or the end. */
    static int faultOf(String text) {
        for (int place = 0; place < text.length(); place++) {
            Matcher beginning = QUERY.matcher(text.substring(0, place + 1));
            if (!beginning.matches() && !beginning.hitEnd()) {
                return place;
            }
        }
        return QUERY.matcher(text).matches() ? -1 : text.length();
    }

    private static int scoreOf(String text, List<Word> words) {
        int score = -1;
        for (String alternative : text.split("\\|")) {
            int part = 0;
            Matcher term = Pattern.compile(TERM).matcher(alternative);
            while (term.find() && part >= 0) {
                boolean unwanted = term.group().startsWith("-");
                int weight = weightOf(unwanted ? term.group().substring(1) : term.group(), words);
                part = unwanted == (weight > 0) ? -1 : part + weight;
            }
            if (part >= 0) {
                score = Math.max(0, score) + part;
            }
        }
        return score;
    }

    private static int weightOf(String term, List<Word> words) {
        String[] wanted = term.replace("\"", "").trim().toLowerCase().split(" +");
        int weight = 0;
        for (int place = 0; place + wanted.length <= words.size(); place++) {
            boolean hit = true;
            for (int i = 0; i < wanted.length; i++) {
                String word = words.get(place + i).letters();
                hit = hit && (wanted[i].endsWith("*")
                    ? word.startsWith(wanted[i].substring(0, wanted[i].length() - 1))
                    : word.equals(wanted[i]));
            }
            weight += hit ? words.get(place).weight() : 0;
        }
        return weight;
    }
}
