/** Promise 9: dictionary tells of rooms and pairs. */
public final class Promise09Test {
    public static void main(String[] args) {
        Bench b = new Bench("Promise09Test");
        b.run("/x 5 def (y) [1 2] def 7 true def true /x cvx def 3 dict dup /k (s) put");
        b.due("USER", b.pairs(1), "4:83 1:5, 4:84 5:0, 1:7 2:1, 2:1 4:83");
        b.due("the made one", b.pairs(2), "4:85 6:1");
        b.due("its room", b.machine.dictionary(2, -1, 0), 3);
        b.due("its pairs", b.machine.dictionary(2, -2, 0), 1);
        b.due("room, whatever what", b.machine.dictionary(2, -1, -7), 3);
        b.due("pairs, whatever what", b.machine.dictionary(2, -2, 99), 1);
        b.run("currentdict (y) undef /y 9 def /x 6 def");
        b.due("the order in which keys came", b.pairs(1), "4:83 1:6, 1:7 2:1, 2:1 4:83, 4:84 1:9");
        wrong(b);
        b.end();
    }

    private static void wrong(Bench b) {
        int[] numbers = {-1, 3, 20, Integer.MIN_VALUE, Integer.MAX_VALUE};
        for (int d : numbers) {
            b.refusesIndex("dictionary(" + d + ", 0, 0)", () -> b.machine.dictionary(d, 0, 0));
            b.refusesIndex("dictionary(" + d + ", -1, 9)", () -> b.machine.dictionary(d, -1, 9));
        }
        int[] places = {-3, 1, Integer.MIN_VALUE, Integer.MAX_VALUE};
        for (int k : places) {
            b.refusesIndex("dictionary(2, " + k + ", 0)", () -> b.machine.dictionary(2, k, 0));
            b.refusesIndex("dictionary(2, " + k + ", 4)", () -> b.machine.dictionary(2, k, 4));
        }
        int[] whats = {-1, 4, Integer.MIN_VALUE, Integer.MAX_VALUE};
        for (int what : whats) {
            b.refusesArgument("dictionary(2, 0, " + what + ")", () -> b.machine.dictionary(2, 0, what));
        }
    }
}
