/** Promise 11: error tells the latest error, and with what it was noted. */
public final class Promise11Test {
    /** A program for each error, and with what it is noted. */
    private static void all(Bench b) {
        String[][] texts = {
            {")", "1 -"}, {"0123456789abcdefg", "2 -"}, {"pop", "3 pop"}, {"null neg", "4 neg"},
            {"nowhere", "5 nowhere"}, {"-1 array", "6 array"}, {"1 0 mod", "7 mod"}, {"]", "8 ]"}, {"0 dict 1 1 put", "9 put"},
            {"end", "10 end"}, {"9 {currentdict begin} repeat", "11 begin"}, {"exit", "12 exit"}, {"{7} loop", "13 -"}, {"{null} loop", "13 null"},
        };
        for (String[] text : texts) {
            b.fresh();
            b.due(text[0], b.run(text[0]), 2);
            b.due(text[0] + " error", b.error(), text[1]);
            String before = b.all();
            b.refusesArgument("error(2)", () -> b.machine.error(2));
            b.refusesArgument("error(-1)", () -> b.machine.error(-1));
            b.due("a call that throws changes nothing", b.all(), before);
            b.endsHere("");
            b.due("it stays behind an empty run", b.error(), text[1]);
            b.machine.reset();
            b.due("reset", b.error(), "0 -");
        }
    }

    public static void main(String[] args) {
        Bench b = new Bench("Promise11Test");
        b.due("number at first", b.machine.error(0), 0);
        b.due("noted at first", b.machine.error(1), -1);
        b.run("nowhere");
        b.due("number", b.machine.error(0), 5);
        b.due("noted", b.machine.error(1), 83);
        b.run("1 2 add");
        b.due("a run without one leaves the latest", b.error(), "5 nowhere");
        b.run("{1 0 idiv} stopped");
        b.due("one that was caught", b.error(), "7 idiv");
        b.run("clear {stop} stopped stop");
        b.due("a stop is none", b.error(), "7 idiv");
        b.run(")");
        b.due("a token that is none", b.error(), "1 -");
        int[] wrong = {-1, 2, Integer.MIN_VALUE, Integer.MAX_VALUE};
        for (int what : wrong) {
            b.refusesArgument("error(" + what + ")", () -> b.machine.error(what));
        }
        all(b);
        b.end();
    }
}
