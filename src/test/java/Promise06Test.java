/** Promise 6: at tells of an operand its kind, value, whether it is executable, and its length. */
public final class Promise06Test {
    public static void main(String[] args) {
        Bench b = new Bench("Promise06Test");
        b.run("null -5 true false mark /pop /pop cvx [1 2] {3} (abc) () currentdict /add load");
        int[][] due = {
            {8, 13, 1, 0}, {7, 1, 0, 0}, {6, 3, 0, 0}, {6, 0, 0, 3}, {5, 2, 1, 1}, {5, 0, 0, 2},
            {4, 0, 1, 0}, {4, 0, 0, 0}, {3, 0, 0, 0}, {2, 0, 0, 0}, {2, 1, 0, 0}, {1, -5, 0, 0}, {0, 0, 0, 0},
        };
        for (int i = 0; i < due.length; i++) {
            for (int what = 0; what < 4; what++) {
                b.due("at(" + i + ", " + what + ")", b.machine.at(i, what), due[i][what]);
            }
        }
        parts(b);
        wrong(b);
        b.end();
    }

    private static void parts(Bench b) {
        b.fresh();
        b.run("[1 2 3 4] 1 2 getinterval (abcd) 3 1 getinterval {1 2} 2 0 getinterval");
        int[][] due = {{5, 6, 1, 0}, {6, 3, 0, 1}, {5, 1, 0, 2}};
        for (int i = 0; i < due.length; i++) {
            for (int what = 0; what < 4; what++) {
                b.due("part at(" + i + ", " + what + ")", b.machine.at(i, what), due[i][what]);
            }
        }
    }

    private static void wrong(Bench b) {
        b.fresh();
        b.refusesIndex("at(0, 0) of none", () -> b.machine.at(0, 0));
        b.refusesIndex("at(0, 9) of none", () -> b.machine.at(0, 9));
        b.run("1 2");
        int[] places = {-1, 2, Integer.MIN_VALUE, Integer.MAX_VALUE};
        for (int i : places) {
            b.refusesIndex("at(" + i + ", 0)", () -> b.machine.at(i, 0));
            b.refusesIndex("at(" + i + ", 4)", () -> b.machine.at(i, 4));
        }
        int[] whats = {-1, 4, Integer.MIN_VALUE, Integer.MAX_VALUE};
        for (int what : whats) {
            b.refusesArgument("at(0, " + what + ")", () -> b.machine.at(0, what));
        }
    }
}
