/** Promise 6: at tells of an operand its kind, value, whether it is executable, and its length. */
public final class Promise06Test {
    public static void main(String[] args) {
        Bench b = new Bench("Promise06Test");
        b.run("null -5 true false mark /pop /pop cvx [1 2] {3} (abc) () currentdict /add load");
        int[][] due = {
            {8, 13, 1, 0}, {7, 1, 0, 0}, {6, 3, 0, 0}, {6, 0, 0, 3}, {5, 2, 1, 1}, {5, 0, 0, 2},
            {4, 0, 1, 0}, {4, 0, 0, 0}, {3, 0, 0, 0}, {2, 0, 0, 0}, {2, 1, 0, 0}, {1, -5, 0, 0}, {0, 0, 0, 0},
        };
        for (int i = 0; i < due.length; i++) {
            for (int what = 0; what < 4; what++) {
                b.due("at(" + i + ", " + what + ")", b.machine.at(i, what), due[i][what]);
            }
        }
        parts(b);
        edges(b);
        wrong(b);
        b.end();
    }

    /** The least and largest of each value, and rows without anything in them. */
    private static void edges(Bench b) {
        b.fresh();
        b.run("2147483647 -2147483648 0 -1 / /pop /operatortype /print load /pop load /pop where pop 20 dict 200 array 200 array 200 array");
        b.run("[] 200 string 200 string 200 string ()");
        int[][] due = {
            {6, 600, 0, 0}, {6, 400, 0, 200}, {6, 200, 0, 200}, {6, 0, 0, 200}, {5, 600, 0, 0}, {5, 400, 0, 200}, {5, 200, 0, 200},
            {5, 0, 0, 200}, {7, 2, 0, 0}, {7, 0, 0, 0}, {8, 0, 1, 0}, {8, 73, 1, 0}, {4, 82, 0, 0}, {4, 0, 0, 0}, {4, 83, 0, 0},
            {1, -1, 0, 0}, {1, 0, 0, 0}, {1, -2147483648, 0, 0}, {1, 2147483647, 0, 0},
        };
        b.due("operands", b.machine.count(0), due.length);
        for (int i = 0; i < due.length; i++) {
            for (int what = 0; what < 4; what++) {
                b.due("edge at(" + i + ", " + what + ")", b.machine.at(i, what), due[i][what]);
            }
        }
    }

    private static void parts(Bench b) {
        b.fresh();
        b.run("[1 2 3 4] 1 2 getinterval (abcd) 3 1 getinterval {1 2} 2 0 getinterval");
        int[][] due = {{5, 6, 1, 0}, {6, 3, 0, 1}, {5, 1, 0, 2}};
        for (int i = 0; i < due.length; i++) {
            for (int what = 0; what < 4; what++) {
                b.due("part at(" + i + ", " + what + ")", b.machine.at(i, what), due[i][what]);
            }
        }
    }

    private static void wrong(Bench b) {
        b.fresh();
        b.refusesIndex("at(0, 0) of none", () -> b.machine.at(0, 0));
        b.refusesIndex("at(0, 9) of none", () -> b.machine.at(0, 9));
        b.run("1 2");
        int[] places = {-1, 2, Integer.MIN_VALUE, Integer.MAX_VALUE};
        for (int i : places) {
            b.refusesIndex("at(" + i + ", 0)", () -> b.machine.at(i, 0));
            b.refusesIndex("at(" + i + ", 4)", () -> b.machine.at(i, 4));
        }
        int[] whats = {-1, 4, Integer.MIN_VALUE, Integer.MAX_VALUE};
        String before = b.all();
        for (int what : whats) {
            b.refusesArgument("at(0, " + what + ")", () -> b.machine.at(0, what));
            b.refusesArgument("at(1, " + what + ")", () -> b.machine.at(1, what));
        }
        b.due("a call that throws changes nothing", b.all(), before);
        full(b);
    }

    /** The lowest of 60 operands is the last one that there is. */
    private static void full(Bench b) {
        b.fresh();
        b.run("0 1 59 {} for");
        for (int i = 0; i < 60; i++) {
            b.due("at(" + i + ", 1)", b.machine.at(i, 1), 59 - i);
        }
        b.refusesIndex("at(60, 0)", () -> b.machine.at(60, 0));
        b.refusesIndex("at(60, -1)", () -> b.machine.at(60, -1));
        b.run("pop");
        b.refusesIndex("at(59, 0) behind pop", () -> b.machine.at(59, 0));
        b.run("clear");
        b.refusesIndex("at(0, 0) behind clear", () -> b.machine.at(0, 0));
    }
}
