import java.util.function.ToIntFunction;

/** Terms: the queue of events, how they are put together, and how the index is LOST. */
public final class TermsEventsTest {
    public static void main(String[] args) {
        atMostEight();
        kindsByTheirNumbers();
        createdAndChanged();
        createdAndRemoved();
        changedAndChanged();
        changedAndRemoved();
        removedAndCreated();
        whereThatOneStands();
        behindTheOthers();
        aFullQueueTakesWhatIsPutTogether();
        theNinthLosesAll();
        whatTellsNothingLosesNothing();
        whileLostNoneAreKept();
        lostAgain();
        Check.end();
    }

    /** The files 1 .. 9 of one character each, all of them read, and no event. */
    private static FileIndexer quiet() {
        FileIndexer x = new FileIndexer();
        for (int file = 1; file <= 9; file++) {
            x.make(file, 0, false);
            x.write(file, 'a', 1);
            x.work(1);
        }
        return x;
    }

    /** Of the files 1 .. 8 CHANGED was told, of 9 nothing. */
    private static FileIndexer full() {
        FileIndexer x = quiet();
        for (int file = 1; file <= 8; file++) {
            x.write(file, 'b', 1);
        }
        return x;
    }

    /** "EVENTS stand in a queue of at most 8" */
    private static void atMostEight() {
        FileIndexer x = quiet();
        Check.due("none", 0, x.count(3));
        for (int file = 8; file >= 1; file--) {
            x.write(file, 'b', 1);
            Check.due("events", 9 - file, x.count(3));
            Check.due("LOST", 0, x.count(4));
        }
        Check.dueText("eight", "2/8 2/7 2/6 2/5 2/4 2/3 2/2 2/1", Check.events(x));
    }

    /** "one for a file at most, of a kind: 1 CREATED, 2 CHANGED, 3 REMOVED" */
    private static void kindsByTheirNumbers() {
        FileIndexer x = quiet();
        x.make(10, 0, false);
        x.write(1, 'b', 1);
        x.cut(2, 0);
        x.remove(3);
        Check.dueText("one of each", "1/10 2/1 2/2 3/3", Check.events(x));
        x.write(10, 'b', 1);
        x.cut(1, 0);
        x.write(2, 'b', 1);
        x.make(3, 0, false);
        Check.due("still one for each file", 4, x.count(3));
    }

    /** "CREATED and CHANGED: CREATED" */
    private static void createdAndChanged() {
        FileIndexer x = new FileIndexer();
        x.make(1, 0, false);
        x.write(1, 'a', 1);
        Check.dueText("by write", "1/1", Check.events(x));
        x.cut(1, 0);
        Check.dueText("by cut", "1/1", Check.events(x));
    }

    /** "CREATED and REMOVED: it goes" */
    private static void createdAndRemoved() {
        FileIndexer x = new FileIndexer();
        x.make(1, 0, false);
        x.remove(1);
        Check.dueText("at once", "", Check.events(x));
        Check.due("nothing to do", 0, x.work(8));
        Check.due("never in the index", 0, x.count(2));
        x.make(1, 0, false);
        x.write(1, 'a', 1);
        x.remove(1);
        Check.dueText("behind a change", "", Check.events(x));
        x.make(1, 0, false);
        Check.dueText("and CREATED again", "1/1", Check.events(x));
    }

    /** "CHANGED and CHANGED: CHANGED" */
    private static void changedAndChanged() {
        FileIndexer x = quiet();
        x.write(1, 'b', 1);
        x.write(1, 'c', 1);
        Check.dueText("by two writes", "2/1", Check.events(x));
        x.cut(1, 1);
        Check.dueText("and a cut, though it is as it was read", "2/1", Check.events(x));
    }

    /** "CHANGED and REMOVED: REMOVED" */
    private static void changedAndRemoved() {
        FileIndexer x = quiet();
        x.write(1, 'b', 1);
        x.remove(1);
        Check.dueText("one event", "3/1", Check.events(x));
    }

    /** "REMOVED and CREATED: CHANGED" */
    private static void removedAndCreated() {
        FileIndexer x = quiet();
        x.remove(1);
        x.make(1, 0, false);
        Check.dueText("a file again", "2/1", Check.events(x));
        x.write(1, 'b', 1);
        Check.dueText("and CHANGED", "2/1", Check.events(x));
        x.remove(1);
        Check.dueText("and REMOVED", "3/1", Check.events(x));
        x.make(1, 0, true);
        x.remove(1);
        Check.dueText("a folder of this number tells nothing", "3/1", Check.events(x));
        x.make(1, 0, false);
        Check.dueText("and CREATED behind it", "2/1", Check.events(x));
    }

    private static void changesTo(String call, String want, ToIntFunction<FileIndexer> run) {
        FileIndexer x = full();
        run.applyAsInt(x);
        Check.dueText(call, want, Check.events(x));
    }

    /** "they are put together where that one stands" */
    private static void whereThatOneStands() {
        changesTo("the first", "3/1 2/2 2/3 2/4 2/5 2/6 2/7 2/8", x -> x.remove(1));
        changesTo("one between", "2/1 2/2 2/3 3/4 2/5 2/6 2/7 2/8", x -> x.remove(4));
        changesTo("the last", "2/1 2/2 2/3 2/4 2/5 2/6 2/7 3/8", x -> x.remove(8));
        FileIndexer x = new FileIndexer();
        for (int file = 1; file <= 5; file++) {
            x.make(file, 0, false);
        }
        x.remove(3);
        Check.dueText("one between goes", "1/1 1/2 1/4 1/5", Check.events(x));
        x.remove(1);
        Check.dueText("the first goes", "1/2 1/4 1/5", Check.events(x));
        x.remove(5);
        Check.dueText("the last goes", "1/2 1/4", Check.events(x));
        x.remove(2);
        x.remove(4);
        Check.dueText("all go", "", Check.events(x));
    }

    /** "else it is put behind the others" */
    private static void behindTheOthers() {
        FileIndexer x = quiet();
        x.write(9, 'b', 1);
        x.make(10, 0, false);
        x.remove(1);
        x.write(5, 'b', 1);
        Check.dueText("as they came", "2/9 1/10 3/1 2/5", Check.events(x));
        x.remove(10);
        x.make(10, 0, false);
        Check.dueText("one that went comes last", "2/9 3/1 2/5 1/10", Check.events(x));
        x.work(1);
        x.write(9, 'c', 1);
        Check.dueText("and so does one that was taken", "3/1 2/5 1/10 2/9", Check.events(x));
    }

    private static void aFullQueueTakesWhatIsPutTogether() {
        changesTo("CHANGED", "2/1 2/2 2/3 2/4 2/5 2/6 2/7 2/8", x -> x.write(8, 'c', 1));
        FileIndexer x = full();
        x.remove(8);
        x.make(8, 0, false);
        Check.dueText("CREATED", "2/1 2/2 2/3 2/4 2/5 2/6 2/7 2/8", Check.events(x));
        Check.due("not LOST", 0, x.count(4));
        x.work(1);
        x.make(10, 0, false);
        Check.dueText("full again", "2/2 2/3 2/4 2/5 2/6 2/7 2/8 1/10", Check.events(x));
        x.remove(10);
        x.write(9, 'b', 1);
        Check.dueText("a place is free", "2/2 2/3 2/4 2/5 2/6 2/7 2/8 2/9", Check.events(x));
        Check.due("not LOST", 0, x.count(4));
    }

    private static void loses(String call, int answer, int files, ToIntFunction<FileIndexer> run) {
        FileIndexer x = full();
        Check.due(call, answer, run.applyAsInt(x));
        Check.due("LOST by " + call, 1, x.count(4));
        Check.dueText("no event behind " + call, "", Check.events(x));
        Check.thrown(x, "nor at the place 0 behind " + call, Check.NO_SUCH, y -> y.event(0));
        Check.due("files behind " + call, files, x.count(1));
        Check.due("reads behind " + call, 9, x.count(6));
    }

    /** "if there are 8, all events go, and the index is LOST" */
    private static void theNinthLosesAll() {
        loses("make", 1, 10, x -> x.make(10, 0, false));
        loses("write", 2, 9, x -> x.write(9, 'b', 1));
        loses("cut", 1, 9, x -> x.cut(9, 0));
        loses("remove", 1, 8, x -> x.remove(9));
        FileIndexer x = full();
        x.write(9, 'b', 1);
        Check.due("what lost it was done all the same", 0, x.cut(9, 2));
    }

    private static void tellsNothing(String call, ToIntFunction<FileIndexer> run) {
        FileIndexer x = full();
        try {
            run.applyAsInt(x);
        } catch (RuntimeException e) {
            // Refused calls tell nothing either; what they throw is tested with their promise.
        }
        Check.due("not LOST by " + call, 0, x.count(4));
        Check.dueText("events behind " + call, "2/1 2/2 2/3 2/4 2/5 2/6 2/7 2/8", Check.events(x));
    }

    private static void whatTellsNothingLosesNothing() {
        tellsNothing("a folder that is made", x -> x.make(10, 0, true));
        tellsNothing("a folder that is made and removed", x -> x.make(10, 0, true) + x.remove(10));
        tellsNothing("a file that is moved", x -> x.make(10, 0, true) + x.move(9, 10));
        tellsNothing("a cut of nothing", x -> x.cut(9, 1));
        tellsNothing("a make that is refused", x -> x.make(9, 0, false));
        tellsNothing("a write that is refused", x -> x.write(9, 127, 1));
        tellsNothing("a cut that is refused", x -> x.cut(9, 2));
        tellsNothing("a remove that is refused", x -> x.remove(10));
        tellsNothing("a work that is refused", x -> x.work(9));
    }

    /** "While it is LOST events are not kept." */
    private static void whileLostNoneAreKept() {
        FileIndexer x = full();
        x.make(10, 0, false);
        x.make(11, 0, false);
        Check.due("no CREATED", 0, x.count(3));
        x.write(11, 'a', 1);
        x.cut(1, 0);
        Check.due("no CHANGED", 0, x.count(3));
        x.remove(11);
        x.remove(2);
        Check.due("no REMOVED", 0, x.count(3));
        Check.due("still LOST", 1, x.count(4));
        Check.thrown(x, "no work", Check.STATE, y -> y.work(1));
        Check.due("nothing was read", 9, x.count(6));
        Check.due("what is there is read", 9, x.rescan());
        Check.due("no longer LOST", 0, x.count(4));
        Check.dueText("none of them comes back", "", Check.events(x));
        x.remove(10);
        Check.dueText("kept again", "3/10", Check.events(x));
    }

    private static void lostAgain() {
        FileIndexer x = full();
        x.write(9, 'b', 1);
        x.rescan();
        for (int file = 1; file <= 8; file++) {
            x.write(file, 'c', 1);
        }
        Check.due("eight after the loss", 8, x.count(3));
        Check.due("not LOST", 0, x.count(4));
        x.write(9, 'c', 1);
        Check.due("LOST again", 1, x.count(4));
        Check.due("none is left", 0, x.count(3));
    }
}
