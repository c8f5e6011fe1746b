/**
 * Promise 3: "EXECUTION (24 at most; the program is the first one)", and "no room on EXECUTION for what an operator needs
 * (a loop, stopped: two; if, ifelse, also if nothing comes of them, and exec, a name with an executable array: one)".
 */
public final class Promise03ExecutionTest {
    public static void main(String[] args) {
        Bench b = new Bench("Promise03ExecutionTest");
        names(b);
        branches(b);
        loops(b);
        stops(b);
        lastOnes(b);
        needs(b);
        emptyBehind(b);
        b.end();
    }

    /** Runs it on a new object, counting in /n how often the body began, and looks where it ends. */
    private static void deepens(Bench b, String body, int depth, String error, String operands) {
        b.fresh();
        b.endsHere("/n 0 def /f {/n n 1 add def " + body + "} def");
        b.due(body + " run", b.run("f"), 2);
        b.due(body + " error", b.error(), error);
        b.due(body + " depth", b.machine.dictionary(1, 0, 3), depth);
        b.due(body + " operands", b.operands(), operands);
    }

    /** The program and 23 of f are 24. */
    private static void names(Bench b) {
        deepens(b, "f 0", 23, "2 f", "");
        // The name whose value has no room is noted, not the one before it.
        b.fresh();
        b.endsHere("/n 0 def /f {/n n 1 add def g 0} def /g /f cvx def");
        b.due("by another name", b.run("f"), 2);
        b.due("error", b.error(), "2 f");
        b.due("depth", b.machine.dictionary(1, 0, 3), 23);
    }

    /** Each f holds two: its own and the branch's. */
    private static void branches(Bench b) {
        deepens(b, "true {f 0} if 0", 12, "2 if", "true {f 0}");
        deepens(b, "true {f 0} {} ifelse 0", 12, "2 ifelse", "true {f 0} {}");
        deepens(b, "{f 0} exec 0", 12, "2 exec", "{f 0}");
        deepens(b, "/f cvx exec 0", 23, "2 f", "");
        deepens(b, "/f load exec 0", 23, "2 exec", "{/n n 1 add def /f load exec 0}");
    }

    /** Each f holds three: its own, the loop and the round's. */
    private static void loops(Bench b) {
        deepens(b, "1 {f 0} repeat 0", 8, "2 repeat", "1 {f 0}");
        deepens(b, "{f 0} loop 0", 8, "2 loop", "{f 0}");
        deepens(b, "1 1 1 {pop f 0} for 0", 8, "2 for", "1 1 1 {pop f 0}");
        deepens(b, "(a) {pop f 0} forall 0", 8, "2 forall", "(a) {pop f 0}");
        // As the last value of all, each f holds the loop alone; it wants two places to begin.
        deepens(b, "1 {f} repeat", 23, "2 repeat", "1 {f}");
        deepens(b, "{f} loop", 23, "2 loop", "{f}");
    }

    private static void stops(Bench b) {
        b.fresh();
        b.endsHere("/n 0 def /s {/n n 1 add def {s} stopped} def s");
        b.due("error", b.error(), "2 stopped");
        b.due("depth", b.machine.dictionary(1, 0, 3), 23);
        b.due("caught by the innermost one", b.operands(), "{s} true" + " false".repeat(21));
        b.fresh();
        b.endsHere("/s {5 stopped 0} def {s} stopped");
        b.due("operands", b.operands(), "5 false 0 false");
    }

    /** "the last one when it has gone from there already": what is last needs no place more. */
    private static void lastOnes(Bench b) {
        String[] bodies = {"f", "true {f} if", "false {} {f} ifelse", "{f} exec", "/f cvx exec", "/f load exec", "true {{f} exec} if"};
        for (String body : bodies) {
            b.fresh();
            b.endsHere("/f {" + body + "} def");
            b.due(body + " as the last", b.run("f"), 1);
            b.due("steps", b.machine.count(3), 1000);
            b.due("operands", b.machine.count(0) <= 2 ? 1 : 0, 1);
        }
        b.steps("{{1 2 add} exec} exec", 100, 0, 7, "3");
    }

    /** Runs the text with so many places left: the program and f's are there. */
    private static int withPlaces(Bench b, int left, String text) {
        b.fresh();
        b.endsHere("/e {} def /x /e cvx def /v 5 def /t {" + text + " 0 pop} def");
        b.endsHere("/f {/n n 1 sub def n 0 eq {t} {f} ifelse 0 pop} def /n " + (22 - left) + " def");
        return b.run("f");
    }

    private static void fails(Bench b, int left, String text, String error, String operands) {
        b.due(text + " with " + left + " places", withPlaces(b, left, text), 2);
        b.due(text + " error", b.error(), error);
        b.due(text + " operands", b.operands(), operands);
    }

    private static void fits(Bench b, int left, String text, String operands) {
        b.due(text + " with " + left + " places", withPlaces(b, left, text), 0);
        b.due(text + " error", b.error(), "0 -");
        b.due(text + " operands", b.operands(), operands);
    }

    private static void needs(Bench b) {
        String[][] ofTwo = {
            {"0 {} repeat", "repeat", "0 {}", ""}, {"1 {7} repeat", "repeat", "1 {7}", "7"}, {"{exit} loop", "loop", "{exit}", ""},
            {"1 1 0 {} for", "for", "1 1 0 {}", ""}, {"1 1 1 {} for", "for", "1 1 1 {}", "1"}, {"() {} forall", "forall", "() {}", ""},
            {"(a) {} forall", "forall", "(a) {}", "97"}, {"0 array {} forall", "forall", "[] {}", ""},
            {"0 dict {} forall", "forall", "dict2 {}", ""},
            {"5 stopped", "stopped", "5", "5 false"}, {"{} stopped", "stopped", "{}", "false"}, {"/e cvx stopped", "stopped", "e", "false"},
            {"/v cvx stopped", "stopped", "v", "5 false"},
        };
        for (String[] row : ofTwo) {
            fails(b, 0, row[0], "2 " + row[1], row[2]);
            fails(b, 1, row[0], "2 " + row[1], row[2]);
            fits(b, 2, row[0], row[3]);
        }
        String[][] ofOne = {
            {"true {7} if", "if", "true {7}", "7"}, {"false {7} if", "if", "false {7}", ""}, {"true {} if", "if", "true {}", ""},
            {"true {7} {8} ifelse", "ifelse", "true {7} {8}", "7"}, {"false {7} {} ifelse", "ifelse", "false {7} {}", ""},
            {"{} exec", "exec", "{}", ""}, {"{7} exec", "exec", "{7}", "7"}, {"e", "e", "", ""}, {"x", "e", "", ""},
            {"/e cvx exec", "e", "", ""}, {"/x cvx exec", "e", "", ""},
        };
        for (String[] row : ofOne) {
            fails(b, 0, row[0], "2 " + row[1], row[2]);
            fits(b, 1, row[0], row[3]);
        }
        String[][] ofNone = {
            {"5 exec", "5"}, {"v", "5"}, {"/v cvx exec", "5"}, {"1 2 /add cvx exec", "3"}, {"1 2 /add load exec", "3"},
            {"{7} cvlit exec", "[7]"}, {"/e load", "{}"}, {"{7}", "{7}"}, {"{e} bind", "{e}"},
        };
        for (String[] row : ofNone) {
            fits(b, 0, row[0], row[1]);
        }
    }

    /** "EXECUTION is empty behind it": no loop and no stopped of an earlier run is left, however that ended. */
    private static void emptyBehind(Bench b) {
        String[] before = {"{{0 pop} loop} stopped", "{{quit} loop} stopped", "{1 0 idiv} loop", "{stop} loop", "1 {7} repeat"};
        int[] results = {1, 4, 2, 3, 0};
        for (int i = 0; i < before.length; i++) {
            b.fresh();
            b.due(before[i], b.run(before[i]), results[i]);
            b.endsHere("clear");
            b.failsHere("exit", 12, "exit");
            b.failsHere("nope", 5, "nope");
            b.due("stop", b.run("stop"), 3);
            b.endsHere("/f {f 0} def");
            b.due("all places are free", b.run("f"), 2);
            b.due("steps", b.machine.count(3), 1 + 23);
        }
    }
}
