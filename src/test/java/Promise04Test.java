/** Promise 4: reset makes the machine as at first; the tape stays. */
public final class Promise04Test {
    public static void main(String[] args) {
        Bench b = new Bench("Promise04Test");
        b.run("/x 1 def /y (abc) def [1 2 {x}] 5 dict begin /z 3 def 4 = << /a 1 >> begin 1 0 idiv");
        b.type("count countdictstack");
        b.machine.reset();
        asAtFirst(b);
        b.due("the tape stays", b.machine.run(10), 0);
        b.due("what it does", b.operands(), "0 2");
        b.due("its steps", b.machine.count(3), 2);
        again(b);
        b.end();
    }

    private static void asAtFirst(Bench b) {
        int[] counts = {0, 2, 0, 0, 83, 0, 0, 2};
        for (int which = 0; which < counts.length; which++) {
            b.due("count(" + which + ")", b.machine.count(which), counts[which]);
        }
        b.due("error", b.error(), "0 -");
        b.due("USER's pairs", b.machine.dictionary(1, -2, 0), 0);
        b.due("USER's room", b.machine.dictionary(1, -1, 0), 20);
        b.due("SYSTEM's pairs", b.machine.dictionary(0, -2, 0), 74);
        b.refusesIndex("dictionary(2, -1, 0)", () -> b.machine.dictionary(2, -1, 0));
        b.refusesIndex("name(83, -1)", () -> b.machine.name(83, -1));
        b.refusesIndex("value(0, 0)", () -> b.machine.value(0, 0));
        b.refusesIndex("octet(0)", () -> b.machine.octet(0));
        b.refusesIndex("out(0)", () -> b.machine.out(0));
    }

    private static void again(Bench b) {
        b.machine.reset();
        b.due("a name of before", b.run("x"), 2);
        b.due("its error", b.error(), "5 x");
        b.due("names", b.machine.count(4), 84);
        b.machine.reset();
        b.run("3 array 3 string 2 dict");
        b.due("rows are new", b.operands(), "[null null null] (\0\0\0) dict2");
        b.due("the new dictionary", b.pairs(2), "");
    }
}
