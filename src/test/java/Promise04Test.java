/** Promise 4: reset makes the machine as at first; the tape stays. */
public final class Promise04Test {
    public static void main(String[] args) {
        Bench b = new Bench("Promise04Test");
        b.run("/x 1 def /y (abc) def [1 2 {x}] 5 dict begin /z 3 def 4 = << /a 1 >> begin 1 0 idiv");
        b.type("count countdictstack");
        b.machine.reset();
        asAtFirst(b);
        b.due("the tape stays", b.machine.run(10), 0);
        b.due("what it does", b.operands(), "0 2");
        b.due("its steps", b.machine.count(3), 2);
        again(b);
        tape(b);
        limits(b);
        likeNew(b);
        b.end();
    }

    private static void asAtFirst(Bench b) {
        int[] counts = {0, 2, 0, 0, 83, 0, 0, 2};
        for (int which = 0; which < counts.length; which++) {
            b.due("count(" + which + ")", b.machine.count(which), counts[which]);
        }
        b.due("error", b.error(), "0 -");
        b.due("USER's pairs", b.machine.dictionary(1, -2, 0), 0);
        b.due("USER's room", b.machine.dictionary(1, -1, 0), 20);
        b.due("SYSTEM's pairs", b.machine.dictionary(0, -2, 0), 74);
        b.refusesIndex("dictionary(2, -1, 0)", () -> b.machine.dictionary(2, -1, 0));
        b.refusesIndex("name(83, -1)", () -> b.machine.name(83, -1));
        b.refusesIndex("value(0, 0)", () -> b.machine.value(0, 0));
        b.refusesIndex("octet(0)", () -> b.machine.octet(0));
        b.refusesIndex("out(0)", () -> b.machine.out(0));
    }

    /** "the tape stays": what was typed before is still there, and what comes then goes behind it. */
    private static void tape(Bench b) {
        b.fresh();
        b.type("1 2");
        b.machine.reset();
        b.machine.reset();
        b.type("3 4");
        b.due("run", b.machine.run(10), 0);
        b.due("operands", b.operands(), "1 23 4");
        b.fresh();
        b.type(" ".repeat(299) + "7");
        b.machine.reset();
        b.due("a full tape stays full", b.machine.type(' ', 1) ? 1 : 0, 0);
        b.due("run", b.machine.run(1), 0);
        b.due("operands", b.operands(), "7");
        b.machine.reset();
        b.due("an empty tape stays empty", b.machine.run(0), 0);
        b.due("with room for 300", b.type(" ".repeat(300)) ? 1 : 0, 1);
    }

    /** Behind a reset all that was full has all its room again. */
    private static void limits(Bench b) {
        String[] fillers = {"200 array 200 array 200 array", "200 string 200 string 200 string", "18 {20 dict} repeat",
            "8 {currentdict begin} repeat", "clear 60 {null} repeat", "/s 200 string def 5 {s print} repeat"};
        for (int times = 0; times < 3; times++) {
            for (String filler : fillers) {
                b.fresh();
                b.endsHere(filler);
                b.machine.reset();
                asAtFirst(b);
                b.endsHere(filler);
                b.machine.reset();
                b.endsHere(fillers[times]);
            }
        }
        b.fresh();
        for (int turn = 0; turn < 2; turn++) {
            for (int n = 83; n < 160; n++) {
                b.endsHere("/" + turn + "n" + n + " pop");
            }
            b.due("names", b.machine.count(4), 160);
            b.machine.reset();
        }
    }

    /** The same programs tell the same on a new object and behind a reset. */
    private static void likeNew(Bench b) {
        String[] texts = {"/x 5 def x (abc) [1 {2}] << /a 1 >> 7 =", "3 array 3 string 20 dict begin nope", "{exit} stopped",
            "200 array 200 string pop pop 1 2 /y", "{} loop"};
        for (String text : texts) {
            b.fresh();
            int result = b.run(text);
            String all = b.all();
            b.fresh();
            for (String before : texts) {
                b.run(before);
                b.machine.reset();
                b.due(text + " behind " + before + " and a reset", b.run(text), result);
                b.due(text + " behind " + before + " and a reset", b.all(), all);
                b.machine.reset();
            }
        }
    }

    private static void again(Bench b) {
        b.machine.reset();
        b.due("a name of before", b.run("x"), 2);
        b.due("its error", b.error(), "5 x");
        b.due("names", b.machine.count(4), 84);
        b.machine.reset();
        b.run("3 array 3 string 2 dict");
        b.due("rows are new", b.operands(), "[null null null] (\0\0\0) dict2");
        b.due("the new dictionary", b.pairs(2), "");
    }
}
