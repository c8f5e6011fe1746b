/** Promise 5: count. */
public final class Promise05Test {
    public static void main(String[] args) {
        Bench b = new Bench("Promise05Test");
        b.run("1 2 3 (ab) (c) {x y} [7] 5 dict begin 12 =");
        int[] counts = {7, 3, 3, 14, 85, 3, 3, 3};
        for (int which = 0; which < counts.length; which++) {
            b.due("count(" + which + ")", b.machine.count(which), counts[which]);
        }
        b.run("pop");
        b.due("operands behind pop", b.machine.count(0), 6);
        b.due("steps of the latest run", b.machine.count(3), 1);
        b.due("rows stay", b.machine.count(5), 3);
        b.run("end");
        b.due("dictionaries on their stack behind end", b.machine.count(1), 2);
        b.due("dictionaries in all behind end", b.machine.count(7), 3);
        b.machine.run(0);
        b.due("steps of a run of nothing", b.machine.count(3), 0);
        int[] wrong = {-1, 8, Integer.MIN_VALUE, Integer.MAX_VALUE};
        for (int which : wrong) {
            b.refusesArgument("count(" + which + ")", () -> b.machine.count(which));
        }
        b.end();
    }
}
