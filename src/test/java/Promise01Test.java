/** Promise 1: a new object is the machine as it is at first. */
public final class Promise01Test {
    private static final String[] OPERATORS = (
        "pop exch dup copy index roll clear count mark [ << cleartomark counttomark add sub mul idiv mod neg abs "
        + "eq ne lt le gt ge and or xor not true false null array string length get put getinterval putinterval "
        + "aload astore ] >> dict begin end def load store known where undef currentdict countdictstack maxlength "
        + "exec if ifelse for repeat loop forall exit stop stopped quit bind cvx cvlit xcheck type = print").split(" ");

    public static void main(String[] args) {
        Bench b = new Bench("Promise01Test");
        int[] counts = {0, 2, 0, 0, 83, 0, 0, 2};
        for (int which = 0; which < counts.length; which++) {
            b.due("count(" + which + ")", b.machine.count(which), counts[which]);
        }
        b.due("error", b.error(), "0 -");
        b.due("the first run of an empty tape", b.machine.run(1000), 0);
        system(b);
        user(b);
        apart(b);
        empty(b);
        b.end();
    }

    private static void system(Bench b) {
        b.due("operators", OPERATORS.length, 74);
        b.due("SYSTEM's room", b.machine.dictionary(0, -1, 0), 74);
        b.due("SYSTEM's pairs", b.machine.dictionary(0, -2, 0), 74);
        for (int i = 0; i < 74; i++) {
            b.due("name " + i, b.nameText(i), OPERATORS[i]);
            int[] pair = {4, i, 8, i};
            for (int what = 0; what < 4; what++) {
                b.due("SYSTEM pair " + i + " " + what, b.machine.dictionary(0, i, what), pair[what]);
            }
        }
    }

    private static void user(Bench b) {
        b.due("USER's room", b.machine.dictionary(1, -1, 0), 20);
        b.due("USER's pairs", b.machine.dictionary(1, -2, 0), 0);
        b.due("currentdict", b.run("currentdict countdictstack"), 0);
        b.due("USER is the last one", b.operands(), "dict1 2");
    }

    /** "the tape and OUT are empty", and so is all else that can be told */
    private static void empty(Bench b) {
        b.fresh();
        b.due("no token is on the tape", b.machine.run(0), 0);
        b.due("steps", b.machine.count(3), 0);
        b.fresh();
        b.due("the tape has room for 300", b.type(" ".repeat(300)) ? 1 : 0, 1);
        b.due("and no more", b.machine.type(' ', 1) ? 1 : 0, 0);
        b.fresh();
        b.refusesIndex("at(0, 0)", () -> b.machine.at(0, 0));
        b.refusesIndex("value(0, 0)", () -> b.machine.value(0, 0));
        b.refusesIndex("octet(0)", () -> b.machine.octet(0));
        b.refusesIndex("dictionary(1, 0, 0)", () -> b.machine.dictionary(1, 0, 0));
        b.refusesIndex("dictionary(2, -1, 0)", () -> b.machine.dictionary(2, -1, 0));
        b.refusesIndex("name(83, -1)", () -> b.machine.name(83, -1));
        b.refusesIndex("out(0)", () -> b.machine.out(0));
    }

    private static void apart(Bench b) {
        Watched first = b.machine;
        b.fresh();
        b.run("/x 1 def (abc) [1 2] 5 =");
        b.due("another object's operands", first.count(0), 2);
        b.due("another object's names", first.count(4), 83);
        b.due("another object's USER", first.dictionary(1, -2, 0), 0);
        b.due("another object's OUT", first.count(2), 0);
    }
}
