/** Promise 7: value tells of all arrays' rows, one behind the other as they were made. */
public final class Promise07Test {
    public static void main(String[] args) {
        Bench b = new Bench("Promise07Test");
        // The inner procedure's } comes first, and its row is made then.
        b.run("{5 {/a b} (xy) [} bind 1 array [null true mark currentdict]");
        int[][] due = {
            {4, 83, 0, 0}, {4, 84, 1, 0},
            {1, 5, 0, 0}, {5, 0, 1, 2}, {6, 0, 0, 2}, {8, 9, 1, 0},
            {0, 0, 0, 0},
        };
        for (int i = 0; i < due.length; i++) {
            for (int what = 0; what < 4; what++) {
                b.due("value(" + i + ", " + what + ")", b.machine.value(i, what), due[i][what]);
            }
        }
        // The array began at the mark within it: what was below that is no part of the row.
        b.due("] goes to the topmost mark", b.machine.value(7, 0), 7);
        b.due("values", b.machine.count(5), 8);
        wrong(b);
        edges(b);
        b.end();
    }

    /** Rows stand one behind the other as they were made, up to 600; one without values takes no place. */
    private static void edges(Bench b) {
        b.fresh();
        b.refusesIndex("value(0, 0) at first", () -> b.machine.value(0, 0));
        b.refusesIndex("value(0, 4) at first", () -> b.machine.value(0, 4));
        b.run("[] {} 0 array");
        b.refusesIndex("value(0, 0) behind empty rows", () -> b.machine.value(0, 0));
        b.run("clear [7] pop {8 9} pop [-2147483648] pop");
        int[] numbers = {7, 8, 9, -2147483648};
        for (int i = 0; i < numbers.length; i++) {
            b.due("value(" + i + ", 1)", b.machine.value(i, 1), numbers[i]);
        }
        b.refusesIndex("value(4, 0)", () -> b.machine.value(4, 0));
        b.run("200 array 200 array 196 array dup 195 (xyz) 1 2 getinterval put");
        int[] last = {6, 1, 0, 2};
        for (int what = 0; what < 4; what++) {
            b.due("value(599, " + what + ")", b.machine.value(599, what), last[what]);
            b.due("value(598, " + what + ")", b.machine.value(598, what), 0);
        }
        b.refusesIndex("value(600, 0)", () -> b.machine.value(600, 0));
        b.refusesArgument("value(599, 4)", () -> b.machine.value(599, 4));
        String before = b.all();
        b.refusesArgument("value(599, -1)", () -> b.machine.value(599, -1));
        b.refusesIndex("value(-1, 9)", () -> b.machine.value(-1, 9));
        b.due("a call that throws changes nothing", b.all(), before);
    }

    private static void wrong(Bench b) {
        int[] places = {-1, 8, 600, Integer.MIN_VALUE, Integer.MAX_VALUE};
        for (int i : places) {
            b.refusesIndex("value(" + i + ", 0)", () -> b.machine.value(i, 0));
            b.refusesIndex("value(" + i + ", -1)", () -> b.machine.value(i, -1));
        }
        int[] whats = {-1, 4, Integer.MIN_VALUE, Integer.MAX_VALUE};
        for (int what : whats) {
            b.refusesArgument("value(0, " + what + ")", () -> b.machine.value(0, what));
        }
    }
}
