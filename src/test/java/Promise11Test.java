/** Promise 11: error tells the latest error, and with what it was noted. */
public final class Promise11Test {
    public static void main(String[] args) {
        Bench b = new Bench("Promise11Test");
        b.due("number at first", b.machine.error(0), 0);
        b.due("noted at first", b.machine.error(1), -1);
        b.run("nowhere");
        b.due("number", b.machine.error(0), 5);
        b.due("noted", b.machine.error(1), 83);
        b.run("1 2 add");
        b.due("a run without one leaves the latest", b.error(), "5 nowhere");
        b.run("{1 0 idiv} stopped");
        b.due("one that was caught", b.error(), "7 idiv");
        b.run("clear {stop} stopped stop");
        b.due("a stop is none", b.error(), "7 idiv");
        b.run(")");
        b.due("a token that is none", b.error(), "1 -");
        int[] wrong = {-1, 2, Integer.MIN_VALUE, Integer.MAX_VALUE};
        for (int what : wrong) {
            b.refusesArgument("error(" + what + ")", () -> b.machine.error(what));
        }
        b.end();
    }
}
