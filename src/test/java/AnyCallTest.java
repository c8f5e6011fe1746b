import java.util.Random;

/** Any calls with any arguments: only the exceptions that the document names come, and those change nothing. */
public final class AnyCallTest {
    private static final int OBJECTS = 400;
    private static final int[] EDGES = {
        Integer.MIN_VALUE, -3, -2, -1, 0, 1, 2, 3, 4, 7, 8, 9, 16, 19, 20, 59, 60, 73, 74, 82, 83, 159, 160, 299, 300,
        599, 600, 999, 1000, 1001, Integer.MAX_VALUE,
    };
    private static final String[] PIECES = {
        "{", "}", "[ ", "] ", "<<", ">>", "(", ")", "\\", "%", "\n", "/", " ", "1 ", "-1 ", "2#1", "dup ", "exec ", "a ", "/a ",
        "def ", "stopped ", "forall ", "loop ", "repeat ", "exch ", "pop ", "put ", "get ", "begin ", "cvx ", "bind ", "roll ",
    };

    public static void main(String[] args) {
        Bench b = new Bench("AnyCallTest");
        for (int i = 0; i < OBJECTS; i++) {
            b.fresh();
            Random random = new Random(77L + i);
            for (int call = 0; call < 512; call++) {
                anyCall(b, random, i);
            }
        }
        b.end();
    }

    private static int edge(Random random) {
        return random.nextInt(3) == 0 ? random.nextInt() : EDGES[random.nextInt(EDGES.length)];
    }

    private static String piece(Random random) {
        String piece = PIECES[random.nextInt(PIECES.length)];
        return random.nextInt(6) == 0 ? String.valueOf((char) random.nextInt(256)) : piece;
    }

    private static void anyCall(Bench b, Random random, int object) {
        Watched m = b.machine;
        int i = edge(random);
        int j = edge(random);
        int k = edge(random);
        int which = random.nextInt(30);
        String before = which > 4 ? counts(m) : "";
        try {
            switch (which) {
                case 0: m.type(random.nextLong(), i); break;
                case 1: m.run(i); break;
                case 2: m.run(random.nextInt(1001)); break;
                case 3: if (random.nextInt(9) == 0) { m.reset(); } break;
                case 4: b.type(piece(random) + piece(random) + piece(random)); break;
                case 5: m.count(i); break;
                case 6: m.at(i, j); break;
                case 7: m.value(i, j); break;
                case 8: m.octet(i); break;
                case 9: m.dictionary(i, j, k); break;
                case 10: m.name(i, j); break;
                case 11: m.error(i); break;
                case 12: m.out(i); break;
                default: b.type(piece(random)); break;
            }
        } catch (RuntimeException e) {
            boolean named = e.getClass() == IndexOutOfBoundsException.class || e.getClass() == IllegalArgumentException.class;
            b.due("object " + object + " call " + which + " with " + i + " " + j + " " + k + " threw " + e, named ? 1 : 0, 1);
        }
        if (which > 4) {
            b.due("object " + object + " behind call " + which, counts(m), before);
        }
    }

    private static String counts(Watched m) {
        StringBuilder all = new StringBuilder();
        for (int which = 0; which < 8; which++) {
            all.append(m.count(which)).append(' ');
        }
        return all.append(m.error(0)).append(' ').append(m.error(1)).toString();
    }
}
