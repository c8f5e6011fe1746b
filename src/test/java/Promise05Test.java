/** Promise 5: count. */
public final class Promise05Test {
    public static void main(String[] args) {
        Bench b = new Bench("Promise05Test");
        b.run("1 2 3 (ab) (c) {x y} [7] 5 dict begin 12 =");
        int[] counts = {7, 3, 3, 14, 85, 3, 3, 3};
        for (int which = 0; which < counts.length; which++) {
            b.due("count(" + which + ")", b.machine.count(which), counts[which]);
        }
        b.run("pop");
        b.due("operands behind pop", b.machine.count(0), 6);
        b.due("steps of the latest run", b.machine.count(3), 1);
        b.due("rows stay", b.machine.count(5), 3);
        b.run("end");
        b.due("dictionaries on their stack behind end", b.machine.count(1), 2);
        b.due("dictionaries in all behind end", b.machine.count(7), 3);
        b.machine.run(0);
        b.due("steps of a run of nothing", b.machine.count(3), 0);
        int[] wrong = {-1, 8, 9, Integer.MIN_VALUE, Integer.MAX_VALUE};
        String before = b.all();
        for (int which : wrong) {
            b.refusesArgument("count(" + which + ")", () -> b.machine.count(which));
        }
        b.due("a call that throws changes nothing", b.all(), before);
        full(b);
        steps(b);
        b.end();
    }

    /** What is counted, as full as it can be. */
    private static void full(Bench b) {
        String[] fillers = {"60 {null} repeat", "8 {currentdict begin} repeat", "/s 200 string def 5 {s print} repeat", "{} loop",
            "", "200 array 200 array 200 array", "200 string 200 string 200 string", "18 {0 dict} repeat"};
        int[] most = {60, 10, 1000, 1000, 160, 600, 600, 20};
        for (int which = 0; which < most.length; which++) {
            b.fresh();
            b.run(fillers[which]);
            for (int n = 83; n < 160 && which == 4; n++) {
                b.endsHere("/n" + n);
                b.endsHere("pop");
            }
            b.due("count(" + which + ") at most", b.machine.count(which), most[which]);
        }
    }

    /** "steps of the latest run (3)": also of one that ended early; a refused one is none. */
    private static void steps(Bench b) {
        b.fresh();
        b.due("steps before any run", b.machine.count(3), 0);
        b.run("1 2 3");
        b.due("steps", b.machine.count(3), 3);
        b.refusesArgument("run(-1)", () -> b.machine.run(-1));
        b.due("behind a refused run", b.machine.count(3), 3);
        b.run("1 nope 2");
        b.due("with the step that failed", b.machine.count(3), 2);
        b.run("quit 1");
        b.due("with the quit", b.machine.count(3), 1);
        b.run("1 2 3", 2);
        b.due("used up", b.machine.count(3), 2);
        b.run("1 2 3", 0);
        b.due("none allowed", b.machine.count(3), 0);
        b.run("1");
        b.type("1 2");
        b.due("typing is no run", b.machine.count(3), 1);
    }
}
