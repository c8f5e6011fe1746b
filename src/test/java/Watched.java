import java.util.ArrayList;
import java.util.List;

/**
 * An object of the class under test that never gets more than its 512 calls: when they are used up, a new object
 * is brought to the same state by the calls that changed the old one, and the looking goes on there.
 */
final class Watched {
    private static final int MOST_CALLS = 512;

    private interface Change {
        void make(OperandStacks object);
    }

    private final List<Change> changes = new ArrayList<>();
    private OperandStacks object = new OperandStacks();
    private int calls = 0;

    private OperandStacks forOneCall() {
        if (calls == MOST_CALLS) {
            replace();
        }
        calls++;
        return object;
    }

    private void replace() {
        if (changes.size() >= MOST_CALLS) {
            throw new IllegalStateException("the test changes one object by more than 512 calls");
        }
        object = new OperandStacks();
        for (Change change : changes) {
            change.make(object);
        }
        calls = changes.size();
    }

    boolean type(long w, int n) {
        boolean typed = forOneCall().type(w, n);
        changes.add(o -> o.type(w, n));
        return typed;
    }

    /** Also a run that throws is made again: that it changes nothing is for the tests to see. */
    int run(int steps) {
        OperandStacks ready = forOneCall();
        changes.add(o -> runAgain(o, steps));
        return ready.run(steps);
    }

    private static void runAgain(OperandStacks object, int steps) {
        try {
            object.run(steps);
        } catch (IllegalArgumentException e) {
            // the first run told it to the test
        }
    }

    void reset() {
        forOneCall().reset();
        changes.add(OperandStacks::reset);
    }

    int count(int which) {
        return forOneCall().count(which);
    }

    int at(int i, int what) {
        return forOneCall().at(i, what);
    }

    int value(int i, int what) {
        return forOneCall().value(i, what);
    }

    int octet(int i) {
        return forOneCall().octet(i);
    }

    int dictionary(int d, int k, int what) {
        return forOneCall().dictionary(d, k, what);
    }

    int name(int n, int i) {
        return forOneCall().name(n, i);
    }

    int error(int what) {
        return forOneCall().error(what);
    }

    int out(int i) {
        return forOneCall().out(i);
    }
}
