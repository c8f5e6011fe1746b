/** What the tests share: types and runs programs on a new object, and tells its state in plain text. */
final class Bench {
    private final String title;
    private int wrong = 0;
    private int looked = 0;
    Watched machine = new Watched();

    Bench(String title) {
        this.title = title;
    }

    void fresh() {
        machine = new Watched();
    }

    void due(String what, long got, long want) {
        looked++;
        if (got != want) {
            wrong++;
            System.out.println(title + ": " + what + " answered " + got + ", due is " + want);
        }
    }

    void due(String what, String got, String want) {
        looked++;
        if (!got.equals(want)) {
            wrong++;
            System.out.println(title + ": " + what + " answered " + got + ", due is " + want);
        }
    }

    /** Ends the test: with exit code 1 if an answer was wrong, or if nothing was looked at. */
    void end() {
        if (wrong > 0 || looked == 0) {
            System.out.println(title + ": " + wrong + " of " + looked + " answers are wrong");
            System.exit(1);
        }
    }

    /** Types the text, whose characters are bytes, onto the tape; false when a piece was refused. */
    boolean type(String text) {
        for (int i = 0; i < text.length(); i += 8) {
            int n = Math.min(8, text.length() - i);
            long w = 0;
            for (int j = 0; j < n; j++) {
                w |= (long) (text.charAt(i + j) & 255) << 8 * j;
            }
            if (!machine.type(w, n)) {
                return false;
            }
        }
        return true;
    }

    int run(String text, int steps) {
        if (!type(text)) {
            due("type of " + text, 0, 1);
        }
        return machine.run(steps);
    }

    int run(String text) {
        return run(text, 1000);
    }

    /** On a new object: the program comes to its end, and leaves these operands. */
    void leaves(String text, String operands) {
        fresh();
        due(text + " run", run(text), 0);
        due(text, operands(), operands);
        due(text + " error", machine.error(0), 0);
    }

    /** On a new object: the program ends by the error of this number, noted with this name, and leaves these operands. */
    void fails(String text, int error, String noted, String operands) {
        fresh();
        due(text + " run", run(text), 2);
        due(text + " error", error(), error + " " + noted);
        due(text, operands(), operands);
    }

    /** On a new object: the program ends as told, in so many steps of those allowed, and leaves these operands. */
    void steps(String text, int allowed, int result, int steps, String operands) {
        fresh();
        due(text + " run(" + allowed + ")", run(text, allowed), result);
        due(text + " steps", machine.count(3), steps);
        due(text, operands(), operands);
    }

    /** On a new object: the program comes to its end, though it met this error, and leaves these operands. */
    void catches(String text, int error, String noted, String operands) {
        fresh();
        due(text + " run", run(text), 0);
        due(text + " error", error(), error + " " + noted);
        due(text, operands(), operands);
    }

    /** A new object with so many operands, all of them null. */
    void withOperands(int n) {
        fresh();
        due(n + " operands' run", run(n + " {null} repeat"), 0);
        due(n + " operands", machine.count(0), n);
    }

    /** On the object as it is: the program ends by this error, and leaves the operands as they are. */
    void failsHere(String text, int error, String noted) {
        String before = operands();
        due(text + " run", run(text), 2);
        due(text + " error", error(), error + " " + noted);
        due(text + " operands", operands(), before);
    }

    /** On the object as it is: the program comes to its end. */
    void endsHere(String text) {
        due(text + " run", run(text), 0);
    }

    String error() {
        int noted = machine.error(1);
        return machine.error(0) + " " + (noted == -1 ? "-" : noted < 0 ? "?" : nameText(noted));
    }

    String operands() {
        StringBuilder all = new StringBuilder();
        for (int i = machine.count(0) - 1; i >= 0; i--) {
            if (all.length() > 0) {
                all.append(' ');
            }
            all.append(text(machine.at(i, 0), machine.at(i, 1), machine.at(i, 2), machine.at(i, 3), 0));
        }
        return all.toString();
    }

    String pairs(int d) {
        StringBuilder all = new StringBuilder();
        for (int k = 0; k < machine.dictionary(d, -2, 0); k++) {
            if (k > 0) {
                all.append(", ");
            }
            all.append(machine.dictionary(d, k, 0)).append(':').append(machine.dictionary(d, k, 1)).append(' ');
            all.append(machine.dictionary(d, k, 2)).append(':').append(machine.dictionary(d, k, 3));
        }
        return all.toString();
    }

    String nameText(int n) {
        StringBuilder bytes = new StringBuilder();
        for (int i = 0; i < machine.name(n, -1); i++) {
            bytes.append((char) machine.name(n, i));
        }
        return bytes.toString();
    }

    String out() {
        StringBuilder bytes = new StringBuilder();
        for (int i = 0; i < machine.count(2); i++) {
            bytes.append((char) machine.out(i));
        }
        return bytes.toString();
    }

    /** All that the calls tell, but for the tape, which no call tells. */
    String all() {
        StringBuilder all = new StringBuilder();
        for (int which = 0; which < 8; which++) {
            all.append(machine.count(which)).append(' ');
        }
        all.append(machine.error(0)).append(' ').append(machine.error(1)).append('\n').append(operands());
        for (int i = 0; i < machine.count(5); i++) {
            for (int what = 0; what < 4; what++) {
                all.append(what == 0 ? '\n' : ':').append(machine.value(i, what));
            }
        }
        for (int i = 0; i < machine.count(6); i++) {
            all.append(' ').append(machine.octet(i));
        }
        for (int d = 0; d < machine.count(7); d++) {
            all.append("\nroom ").append(machine.dictionary(d, -1, 0)).append(' ').append(pairs(d));
        }
        for (int n = 0; n < machine.count(4); n++) {
            all.append("\n").append(nameText(n));
        }
        return all.append('\n').append(out()).toString();
    }

    private String text(int kind, int value, int executable, int length, int depth) {
        switch (kind) {
            case 0: return "null";
            case 1: return Integer.toString(value);
            case 2: return value == 1 ? "true" : "false";
            case 3: return "mark";
            case 4: return (executable == 1 ? "" : "/") + nameText(value);
            case 5: return arrayText(value, executable, length, depth);
            case 6: return stringText(value, length);
            case 7: return "dict" + value;
            case 8: return "--" + nameText(value) + "--" + (executable == 1 ? "" : "?");
            default: return "?";
        }
    }

    private String arrayText(int place, int executable, int length, int depth) {
        if (depth > 3) {
            return "..";
        }
        StringBuilder all = new StringBuilder(executable == 1 ? "{" : "[");
        for (int i = place; i < place + length; i++) {
            if (i > place) {
                all.append(' ');
            }
            Watched m = machine;
            all.append(text(m.value(i, 0), m.value(i, 1), m.value(i, 2), m.value(i, 3), depth + 1));
        }
        return all.append(executable == 1 ? "}" : "]").toString();
    }

    private String stringText(int place, int length) {
        StringBuilder bytes = new StringBuilder("(");
        for (int i = place; i < place + length; i++) {
            bytes.append((char) machine.octet(i));
        }
        return bytes.append(")").toString();
    }

    /** What a call throws: its class's simple name, or "nothing". */
    interface Call {
        void make();
    }

    void refuses(String what, Class<? extends RuntimeException> due, Call call) {
        String got = "nothing";
        try {
            call.make();
        } catch (RuntimeException e) {
            got = e.getClass().getSimpleName();
        }
        due(what + " throws", got, due.getSimpleName());
    }

    void refusesArgument(String what, Call call) {
        refuses(what, IllegalArgumentException.class, call);
    }

    void refusesIndex(String what, Call call) {
        refuses(what, IndexOutOfBoundsException.class, call);
    }
}
