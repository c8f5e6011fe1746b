/** Promise 3: the call run itself: which steps it refuses, that it takes the tape, what stays behind it, and what it tells. */
public final class Promise03RunTest {
    private static final String[] TEXTS = {"1 2 3", "{} loop 4", "1 nope 5", "1 stop 6", "1 quit 7", "1 ) 8", "1 {stop} stopped nope 9"};
    private static final int[] RESULTS = {0, 1, 2, 3, 4, 2, 2};

    public static void main(String[] args) {
        Bench b = new Bench("Promise03RunTest");
        refused(b);
        results(b);
        taken(b);
        stays(b);
        failing(b);
        noted(b);
        b.end();
    }

    /** "IllegalArgumentException for other steps"; "A call that throws changes nothing" */
    private static void refused(Bench b) {
        b.fresh();
        b.run("/x 1 def (abc) {1 2} 7 = nope");
        b.type("1 2 3");
        String before = b.all();
        for (int steps : new int[] {-1, 1001, -1000, 2000, Integer.MIN_VALUE, Integer.MAX_VALUE}) {
            b.refusesArgument("run(" + steps + ")", () -> b.machine.run(steps));
            b.due("behind run(" + steps + ")", b.all(), before);
        }
        b.due("the tape is still there", b.machine.run(1000), 0);
        b.due("all of it", b.operands(), "(abc) {1 2} 1 2 3");
        b.fresh();
        b.due("run(0)", b.machine.run(0), 0);
        b.due("run(1000)", b.machine.run(1000), 0);
    }

    private static void results(Bench b) {
        for (int i = 0; i < TEXTS.length; i++) {
            b.fresh();
            b.due(TEXTS[i], b.run(TEXTS[i]), RESULTS[i]);
        }
    }

    /** "The tape is taken (what is not read of it is gone)" */
    private static void taken(Bench b) {
        for (String text : TEXTS) {
            b.fresh();
            b.run(text);
            String before = b.operands();
            b.due("nothing is left of " + text, b.machine.run(1000), 0);
            b.due("steps", b.machine.count(3), 0);
            b.due("operands", b.operands(), before);
            b.run(text);
            b.due("the tape is empty behind " + text, b.type(" ".repeat(300)) ? 1 : 0, 1);
            b.due("and then full", b.type(" ") ? 1 : 0, 0);
        }
        b.fresh();
        b.type("1 2 3");
        b.due("run(0) takes it, too", b.machine.run(0), 1);
        b.due("nothing is left", b.machine.run(1000), 0);
        b.due("operands", b.operands(), "");
        // A later tape that is shorter has nothing of an earlier one behind it.
        b.fresh();
        b.run("(abc) 123 /xyz");
        b.due("a shorter tape", b.run("(a"), 2);
        b.due("error", b.error(), "1 -");
        b.endsHere("clear 1");
        b.due("operands", b.operands(), "1");
    }

    /** "EXECUTION is empty behind it, all else stays" */
    private static void stays(Bench b) {
        b.fresh();
        b.endsHere("/x 5 def 2 dict begin /y (s) def [x y] 8 =");
        b.due("used up", b.run("{} loop"), 1);
        b.endsHere("x y countdictstack currentdict");
        b.due("operands", b.operands(), "[5 (s)] 5 (s) 3 dict2");
        b.due("OUT", b.out(), "8\n");
        b.due("quit", b.run("3 dict begin quit"), 4);
        b.due("dictionaries on their stack", b.machine.count(1), 4);
        b.due("an error", b.run("nope"), 2);
        b.due("dictionaries on their stack", b.machine.count(1), 4);
        b.endsHere("1 2 add");
        b.due("the latest error stays", b.error(), "5 nope");
        // A begin within a stopped that fails stays, too.
        b.endsHere("clear {1 dict begin 7 nope} stopped");
        b.due("operands", b.operands(), "7 true");
        b.due("dictionaries on their stack", b.machine.count(1), 5);
    }

    /** "What fails leaves all as it was, but for rows, names and tokens that were made or read" */
    private static void failing(Bench b) {
        String[] texts = {
            "1 2 true add", "[1 2] 2 5 put", "(ab) 0 256 put", "[1 2 3] 1 [7 8 9] putinterval", "(abc) 1 (xyz) putinterval",
            "1 2 5 array astore", "mark 1 2 3 >>", "<< 1 2 null 3 >>", "5 begin", "end", "0 dict begin /a 1 def", "1 2 3 9 roll",
            "[1 2] 1 2 getinterval", "1 0 idiv", "1 ]", "-1 {} repeat", "1 0 1 {} for", "exit", "/q load", "5 print", "[1] bind",
            "/add where pop /add 1 put", "/add 1 store", "true {1} [] ifelse", "(a) (b) add", "1 (a) lt", "1 9 copy",
        };
        for (String text : texts) {
            int last = text.lastIndexOf(' ');
            b.fresh();
            b.endsHere(last < 0 ? "" : text.substring(0, last));
            String operands = b.operands();
            int[] counts = new int[8];
            for (int which = 0; which < 8; which++) {
                counts[which] = b.machine.count(which);
            }
            String user = b.pairs(1);
            b.due(text, b.run(text.substring(last + 1)), 2);
            b.due(text + " operands", b.operands(), operands);
            b.due(text + " USER", b.pairs(1), user);
            for (int which = 0; which < 8; which++) {
                b.due(text + " count " + which, b.machine.count(which), which == 3 ? 1 : counts[which]);
            }
        }
    }

    /** "the error is noted, with the operator, or name, that was executed (the innermost one" */
    private static void noted(Bench b) {
        b.fails("nope", 5, "nope", "");
        b.fails("/nope cvx exec", 5, "nope", "");
        b.fails("/x /nope cvx def x", 5, "nope", "");
        b.fails("/x {nope} def x", 5, "nope", "");
        b.fails("/plus /add load def plus", 3, "add", "");
        b.fails("/plus {add} def plus", 3, "add", "");
        b.fails("/plus /add cvx def plus", 3, "add", "");
        b.fails("/add load exec", 3, "add", "");
        b.fails("/add cvx exec", 3, "add", "");
        b.fails("{add} bind exec", 3, "add", "");
        b.fails("exec", 3, "exec", "");
        b.fails("/exec load exec", 3, "exec", "");
        b.fails("{exec} exec", 3, "exec", "");
        b.fails("3 {nope} repeat", 5, "nope", "");
        b.fails("true {nope} if", 5, "nope", "");
        b.fails(")", 1, "-", "");
        b.fails("{", 1, "-", "");
        b.fails("0123456789abcdefg", 2, "-", "");
        b.catches("{nope} stopped", 5, "nope", "true");
        b.catches("/nope cvx stopped", 5, "nope", "true");
        b.catches("/stopped load stopped", 3, "stopped", "true");
        b.catches("{1 nope} stopped {2 0 idiv} stopped", 7, "idiv", "1 true 2 0 true");
        b.catches("{{nope} stopped 0 idiv} stopped", 4, "idiv", "true 0 true");
        b.fails("{nope} stopped pop end", 10, "end", "");
        // A stop notes nothing: the latest error is still told.
        b.fresh();
        b.due("a stop behind an error", b.run("{nope} stopped stop"), 3);
        b.due("error", b.error(), "5 nope");
    }
}
