/** Promise 3: "13 stackoverflow: more operands than there may be", by all that puts more than it takes; and with whom it is noted. */
public final class Promise03OverflowTest {
    public static void main(String[] args) {
        Bench b = new Bench("Promise03OverflowTest");
        tokens(b);
        operators(b);
        several(b);
        exchanges(b);
        names(b);
        rounds(b);
        pairRounds(b);
        falses(b);
        trues(b);
        b.end();
    }

    /** "-1 .. for values that are put as they stand"; rows and names that were read stay. */
    private static void tokens(Bench b) {
        for (String text : new String[] {"5", "-5", "2#1", "/add", "(abc)", "{1 2}", "{}", "()", "/new"}) {
            b.withOperands(60);
            b.failsHere(text, 13, "-");
            b.due("steps", b.machine.count(3), 1);
            b.withOperands(59);
            b.endsHere(text);
            b.due(text + " is the 60th", b.machine.count(0), 60);
        }
        b.withOperands(60);
        int values = b.machine.count(5);
        b.failsHere("(abc)", 13, "-");
        b.failsHere("{1 {2} new}", 13, "-");
        b.due("the string's row was made", b.machine.count(6), 3);
        b.due("the procedures' rows were made", b.machine.count(5), values + 4);
        b.due("the name was met", b.machine.count(4), 84);
        b.withOperands(58);
        b.endsHere("{1 2}");
        b.due("values of a procedure", b.run("exec"), 0);
        b.due("operands", b.machine.count(0), 60);
        b.withOperands(58);
        b.endsHere("{1 2 3}");
        b.due("one too many of them", b.run("exec"), 2);
        b.due("error", b.error(), "13 -");
        b.due("operands", b.machine.count(0), 60);
        b.due("the last one", b.machine.at(0, 1), 2);
    }

    private static void operators(Bench b) {
        for (String text : "count mark [ << true false null currentdict countdictstack dup".split(" ")) {
            b.withOperands(60);
            b.failsHere(text, 13, text);
            b.withOperands(59);
            b.endsHere(text);
            b.due(text + " is the 60th", b.machine.count(0), 60);
        }
        b.fresh();
        b.endsHere("mark 58 {null} repeat counttomark");
        b.due("counttomark", b.machine.at(0, 1), 58);
        b.failsHere("counttomark", 13, "counttomark");
        b.withOperands(59);
        b.endsHere("/add");
        b.failsHere("where", 13, "where");
        b.endsHere("pop /nowhere where");
        b.due("where of none", b.machine.at(0, 0), 2);
        b.due("operands", b.machine.count(0), 60);
        b.withOperands(58);
        b.endsHere("/add where");
        b.due("where", b.machine.count(0), 60);
        b.due("true on top", b.machine.at(0, 1), 1);
        b.due("SYSTEM below it", b.machine.at(1, 1), 0);
    }

    /** What puts several: none of them is put where one has no room. */
    private static void several(Bench b) {
        b.fresh();
        b.endsHere("30 {null} repeat 30 copy");
        b.due("copy", b.machine.count(0), 60);
        b.fresh();
        b.endsHere("31 {null} repeat 30");
        b.failsHere("copy", 13, "copy");
        b.endsHere("pop 29 copy");
        b.due("copy", b.machine.count(0), 60);
        b.withOperands(59);
        b.endsHere("2");
        b.failsHere("copy", 13, "copy");
        b.endsHere("pop 1 copy");
        b.due("copy of one", b.machine.count(0), 60);
        b.endsHere("pop 0 copy");
        b.due("copy of none", b.machine.count(0), 59);
        b.fresh();
        b.endsHere("59 array aload");
        b.due("aload", b.machine.count(0), 60);
        b.fresh();
        b.endsHere("60 array");
        b.failsHere("aload", 13, "aload");
        b.withOperands(57);
        b.endsHere("3 array");
        b.failsHere("aload", 13, "aload");
        b.endsHere("pop 2 array aload");
        b.due("aload", b.machine.count(0), 60);
        b.withOperands(59);
        b.endsHere("{} aload");
        b.due("aload of none", b.machine.count(0), 60);
    }

    /** What puts no more than it takes has room at 60. */
    private static void exchanges(Bench b) {
        b.fresh();
        b.endsHere("0 1 59 {} for exch");
        b.due("exch's top", b.machine.at(0, 1), 58);
        b.due("exch's second", b.machine.at(1, 1), 59);
        b.endsHere("pop 58 index");
        b.due("index of the lowest", b.machine.at(0, 1), 0);
        b.due("operands", b.machine.count(0), 60);
        b.endsHere("clear 0 1 57 {} for 58 1 roll");
        b.due("roll of all", b.machine.at(0, 1), 56);
        b.due("roll's lowest", b.machine.at(57, 1), 57);
        b.withOperands(59);
        b.endsHere("0 array pop 0 string pop 0 dict type xcheck");
        b.due("operands", b.machine.count(0), 60);
        b.endsHere("clear mark 59 {7} repeat ]");
        b.due("] of 59", b.machine.at(0, 3), 59);
        b.endsHere("clear 59 {7} repeat 59 array astore");
        b.due("operands behind astore", b.machine.count(0), 1);
        b.due("astore of 59", b.machine.at(0, 3), 59);
        b.endsHere("clear << 29 {count dup} repeat >>");
        b.due("operands behind >>", b.operands(), "dict3");
        b.due(">> of 29", b.machine.dictionary(3, -2, 0), 29);
        b.withOperands(60);
        b.endsHere("exec");
        b.due("exec of null", b.machine.count(0), 60);
    }

    /** "a name for what it puts" */
    private static void names(Bench b) {
        b.fresh();
        b.endsHere("/x 5 def /y /x cvx def /z /y cvx def /s (abc) def /l [1] def /n null def");
        b.endsHere("60 {null} repeat");
        for (String name : "x s l n".split(" ")) {
            b.failsHere(name, 13, name);
        }
        b.failsHere("y", 13, "x");
        b.failsHere("z", 13, "x");
        b.endsHere("pop z");
        b.due("the 60th", b.machine.at(0, 1), 5);
        b.endsHere("pop /x cvx exec");
        b.due("by exec", b.machine.at(0, 1), 5);
    }

    /** "a loop's for its rounds": a round that has begun is a step; nothing is put. */
    private static void rounds(Bench b) {
        b.fresh();
        b.due("for", b.run("1 1 61 {} for"), 2);
        b.due("error", b.error(), "13 for");
        b.due("operands", b.machine.count(0), 60);
        b.due("the last one", b.machine.at(0, 1), 60);
        b.due("steps", b.machine.count(3), 5 + 61);
        b.fresh();
        b.endsHere("1 1 60 {} for");
        b.due("operands", b.machine.count(0), 60);
        for (String row : new String[] {"(abc)", "[7 8 9]", "{7 8 9}"}) {
            b.fresh();
            b.endsHere("/r " + row + " def 57 {null} repeat /r load {} forall");
            b.due("operands", b.machine.count(0), 60);
            b.fresh();
            b.endsHere("/r " + row + " def 58 {null} repeat");
            b.due("forall", b.run("/r load {} forall"), 2);
            b.due("error", b.error(), "13 forall");
            b.due("operands", b.machine.count(0), 60);
            b.due("steps", b.machine.count(3), 4 + 3);
        }
    }

    private static void pairRounds(Bench b) {
        b.fresh();
        b.endsHere("/d << /a 1 /b 2 >> def 56 {null} repeat d {} forall");
        b.due("two pairs", b.machine.count(0), 60);
        for (int left = 2; left <= 3; left++) {
            b.fresh();
            b.endsHere("/d << /a 1 /b 2 >> def " + (60 - left) + " {null} repeat");
            b.due("a pair and " + (left - 2), b.run("d {} forall"), 2);
            b.due("error", b.error(), "13 forall");
            b.due("operands", b.machine.count(0), 60 - left + 2);
            b.due("the first pair's value", b.machine.at(0, 1), 1);
            b.due("steps", b.machine.count(3), 3 + 2);
        }
    }

    /** "stopped for its false" */
    private static void falses(Bench b) {
        b.withOperands(58);
        b.endsHere("{7} stopped");
        b.due("false", b.machine.at(0, 0), 2);
        b.withOperands(59);
        b.due("false without room", b.run("{7} stopped 8"), 2);
        b.due("error", b.error(), "13 stopped");
        b.due("operands", b.machine.count(0), 60);
        b.due("the last one", b.machine.at(0, 1), 7);
        b.withOperands(59);
        b.due("false of a value without room", b.run("5 stopped"), 2);
        b.due("error", b.error(), "13 stopped");
        b.due("operands", b.machine.count(0), 60);
        b.withOperands(59);
        b.due("an outer stopped has no room for true", b.run("{{7} stopped} stopped"), 2);
        b.due("error", b.error(), "13 stopped");
        b.due("operands", b.machine.count(0), 60);
    }

    /** "(where that has no room, 13 is noted instead, with stopped, and it goes on to the one before)" */
    private static void trues(Bench b) {
        b.withOperands(59);
        b.endsHere("{nope} stopped");
        b.due("true", b.machine.at(0, 1), 1);
        b.due("error", b.error(), "5 nope");
        b.withOperands(59);
        b.due("an error's true without room", b.run("{7 nope} stopped 8"), 2);
        b.due("error", b.error(), "13 stopped");
        b.due("operands", b.machine.count(0), 60);
        b.withOperands(59);
        b.due("a stop's true without room", b.run("{7 stop} stopped 8"), 3);
        b.due("error", b.error(), "13 stopped");
        b.withOperands(59);
        b.due("all of three have no room", b.run("{{{7 stop} stopped} stopped} stopped 8"), 3);
        b.due("error", b.error(), "13 stopped");
        b.due("operands", b.machine.count(0), 60);
        b.withOperands(59);
        b.due("13 itself", b.run("{7 8} stopped 9"), 2);
        b.due("error", b.error(), "13 stopped");
        b.withOperands(58);
        b.endsHere("{7 8 clear nope} stopped");
        b.due("room that was made before the error", b.operands(), "true");
        b.due("error", b.error(), "5 nope");
    }
}
