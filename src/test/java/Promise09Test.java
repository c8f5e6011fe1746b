/** Promise 9: dictionary tells of rooms and pairs. */
public final class Promise09Test {
    public static void main(String[] args) {
        Bench b = new Bench("Promise09Test");
        b.run("/x 5 def (y) [1 2] def 7 true def true /x cvx def 3 dict dup /k (s) put");
        b.due("USER", b.pairs(1), "4:83 1:5, 4:84 5:0, 1:7 2:1, 2:1 4:83");
        b.due("the made one", b.pairs(2), "4:85 6:1");
        b.due("its room", b.machine.dictionary(2, -1, 0), 3);
        b.due("its pairs", b.machine.dictionary(2, -2, 0), 1);
        b.due("room, whatever what", b.machine.dictionary(2, -1, -7), 3);
        b.due("pairs, whatever what", b.machine.dictionary(2, -2, 99), 1);
        b.run("currentdict (y) undef /y 9 def /x 6 def");
        b.due("the order in which keys came", b.pairs(1), "4:83 1:6, 1:7 2:1, 2:1 4:83, 4:84 1:9");
        wrong(b);
        edges(b);
        firstNamed(b);
        b.end();
    }

    private static void edges(Bench b) {
        b.fresh();
        b.run("0 dict << >> 20 dict begin 0 1 19 {dup neg def} for");
        for (int d = 2; d <= 3; d++) {
            int empty = d;
            b.due("room of none", b.machine.dictionary(d, -1, 0), 0);
            b.due("pairs of none", b.machine.dictionary(d, -2, 0), 0);
            b.refusesIndex("pair 0 of none", () -> b.machine.dictionary(empty, 0, 0));
        }
        for (int k = 0; k < 20; k++) {
            int[] pair = {1, k, 1, -k};
            for (int what = 0; what < 4; what++) {
                b.due("pair " + k + " " + what, b.machine.dictionary(4, k, what), pair[what]);
            }
        }
        b.due("room of 20", b.machine.dictionary(4, -1, 0), 20);
        b.due("20 pairs", b.machine.dictionary(4, -2, 0), 20);
        b.refusesIndex("pair 20", () -> b.machine.dictionary(4, 20, 0));
        b.run("currentdict 19 undef");
        b.refusesIndex("pair 19 behind undef", () -> b.machine.dictionary(4, 19, 0));
        b.due("pair 18", b.machine.dictionary(4, 18, 1), 18);
        b.due("room stays", b.machine.dictionary(4, -1, 0), 20);
        b.due("19 pairs", b.machine.dictionary(4, -2, 0), 19);
        b.refusesIndex("pair 74 of SYSTEM", () -> b.machine.dictionary(0, 74, 0));
        b.refusesIndex("dictionary 5", () -> b.machine.dictionary(5, -1, 0));
        b.run("15 {0 dict} repeat clear");
        b.due("the last dictionary", b.machine.dictionary(19, -1, 0), 0);
        b.refusesIndex("dictionary 20", () -> b.machine.dictionary(20, -1, 0));
        b.due("dictionaries", b.machine.count(7), 20);
    }

    /** "(-2; what is not looked at for these two)"; and which exception comes where two fit. */
    private static void firstNamed(Bench b) {
        b.fresh();
        String before = b.all();
        for (int what : new int[] {-1, 0, 3, 4, Integer.MIN_VALUE, Integer.MAX_VALUE}) {
            b.due("room", b.machine.dictionary(0, -1, what), 74);
            b.due("pairs", b.machine.dictionary(0, -2, what), 74);
            b.refusesIndex("k = -3", () -> b.machine.dictionary(0, -3, what));
            b.refusesIndex("k = 74", () -> b.machine.dictionary(0, 74, what));
            b.refusesIndex("d = -1", () -> b.machine.dictionary(-1, -1, what));
            b.refusesIndex("d = 2", () -> b.machine.dictionary(2, -2, what));
        }
        b.refusesArgument("what = 4", () -> b.machine.dictionary(0, 73, 4));
        b.refusesArgument("what = -1", () -> b.machine.dictionary(0, 0, -1));
        b.due("a call that throws changes nothing", b.all(), before);
    }

    private static void wrong(Bench b) {
        int[] numbers = {-1, 3, 20, Integer.MIN_VALUE, Integer.MAX_VALUE};
        for (int d : numbers) {
            b.refusesIndex("dictionary(" + d + ", 0, 0)", () -> b.machine.dictionary(d, 0, 0));
            b.refusesIndex("dictionary(" + d + ", -1, 9)", () -> b.machine.dictionary(d, -1, 9));
        }
        int[] places = {-3, 1, Integer.MIN_VALUE, Integer.MAX_VALUE};
        for (int k : places) {
            b.refusesIndex("dictionary(2, " + k + ", 0)", () -> b.machine.dictionary(2, k, 0));
            b.refusesIndex("dictionary(2, " + k + ", 4)", () -> b.machine.dictionary(2, k, 4));
        }
        int[] whats = {-1, 4, Integer.MIN_VALUE, Integer.MAX_VALUE};
        for (int what : whats) {
            b.refusesArgument("dictionary(2, 0, " + what + ")", () -> b.machine.dictionary(2, 0, what));
        }
    }
}
