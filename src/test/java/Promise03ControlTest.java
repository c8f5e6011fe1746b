/** Promise 3: what executes values, loops, stops, and the steps that it all takes. */
public final class Promise03ControlTest {
    public static void main(String[] args) {
        Bench b = new Bench("Promise03ControlTest");
        executing(b);
        branching(b);
        looping(b);
        overRows(b);
        overPairs(b);
        exiting(b);
        stopping(b);
        quitting(b);
        taking(b);
        b.end();
    }

    private static void executing(Bench b) {
        b.leaves("{1 2 add} exec 5 exec (s) exec /x exec [1] exec", "3 5 (s) /x [1]");
        b.leaves("1 2 /add cvx exec 3 /mul load exec", "9");
        b.leaves("/p {7} def p /p load /p cvx exec", "7 {7} 7");
        b.leaves("/l [1 2] def l /q {3} cvlit def q", "[1 2] [3]");
        b.leaves("{{1}} exec", "{1}");
        b.leaves("/x /y cvx def /y 8 def x", "8");
        b.leaves("/x /y def x", "/y");
        b.leaves("/plus /add load def 2 3 plus", "5");
        b.leaves("{} exec {} cvlit exec", "[]");
        b.leaves("{1} dup 0 5 put exec", "5");
        b.leaves("/p {p2 0} def /p2 {/p load 1 9 put} def p", "9");
        b.fails("exec", 3, "exec", "");
        b.fails("/nope cvx exec", 5, "nope", "");
        b.fails("/x /y cvx def x", 5, "y", "");
        b.fails("1 /add load exec", 3, "add", "1");
        b.fails("/plus /add load def true 1 plus", 4, "add", "true 1");
        b.fails("{1 nope 2} exec", 5, "nope", "1");
    }

    private static void branching(Bench b) {
        b.leaves("true {1} if false {2} if", "1");
        b.leaves("true {1} {2} ifelse false {1} {2} ifelse", "1 2");
        b.fails("1 {1} if", 4, "if", "1 {1}");
        b.fails("true [1] if", 4, "if", "true [1]");
        b.fails("{1} if", 3, "if", "{1}");
        b.fails("true {1} 2 ifelse", 4, "ifelse", "true {1} 2");
        b.fails("null {1} {2} ifelse", 4, "ifelse", "null {1} {2}");
        b.fails("{1} {2} ifelse", 3, "ifelse", "{1} {2}");
    }

    private static void looping(Bench b) {
        b.leaves("1 1 3 {} for 3 -1 1 {} for 1 2 4 {} for", "1 2 3 3 2 1 1 3");
        b.leaves("2 1 1 {} for 1 -1 2 {} for 1 1 1 {} for", "1");
        b.leaves("2147483646 1 2147483647 {} for", "2147483646 2147483647");
        b.leaves("-2147483647 -1 -2147483648 {} for", "-2147483647 -2147483648");
        b.leaves("0 2147483647 2147483647 {} for", "0 2147483647");
        b.leaves("1 1 3 {dup mul} for", "1 4 9");
        b.fails("1 0 3 {} for", 6, "for", "1 0 3 {}");
        b.fails("1 1 3 [] for", 4, "for", "1 1 3 []");
        b.fails("true 1 3 {} for", 4, "for", "true 1 3 {}");
        b.fails("1 3 {} for", 3, "for", "1 3 {}");
        b.leaves("3 {7} repeat 0 {8} repeat", "7 7 7");
        b.fails("-1 {} repeat", 6, "repeat", "-1 {}");
        b.fails("{} {} repeat", 4, "repeat", "{} {}");
        b.fails("{} repeat", 3, "repeat", "{}");
        b.leaves("0 {1 add dup 4 eq {exit} if} loop", "4");
        b.fails("loop", 3, "loop", "");
        b.fails("[] loop", 4, "loop", "[]");
        b.leaves("2 {3 {5} repeat} repeat", "5 5 5 5 5 5");
        b.fresh();
        b.due("a round without room", b.run("1 1 61 {} for"), 2);
        b.due("the error", b.error(), "13 for");
        b.due("operands", b.machine.count(0), 60);
        b.due("steps", b.machine.count(3), 5 + 61);
    }

    private static void overRows(Bench b) {
        b.leaves("[1 /a (s)] {} forall", "1 /a (s)");
        b.leaves("{a {b}} {} forall", "a {b}");
        b.leaves("(ab\377) {} forall [] {1} forall () {1} forall", "97 98 255");
        b.leaves("0 [1 2 3] {add} forall", "6");
        b.leaves("/r [1 2 3] def r {r 2 9 put} forall", "1 2 9");
        b.fails("5 {} forall", 4, "forall", "5 {}");
        b.fails("[] 5 forall", 4, "forall", "[] 5");
        b.fails("{} forall", 3, "forall", "{}");
        b.fresh();
        b.due("a round without room", b.run("59 {0} repeat (ab) {} forall"), 2);
        b.due("the error", b.error(), "13 -");
        b.fresh();
        b.due("a round without room", b.run("58 {0} repeat (abc) {} forall"), 2);
        b.due("the error", b.error(), "13 forall");
        b.due("operands", b.machine.count(0), 60);
    }

    private static void overPairs(Bench b) {
        b.leaves("<< /a 1 2 true >> {} forall", "/a 1 2 true");
        b.leaves("0 dict {1} forall", "");
        b.leaves("/d << /a 1 /b 2 /c 3 >> def d {d /b undef d /c 9 put} forall", "/a 1 /c 9");
        b.leaves("/d 3 dict def d /a 1 put d {d /b 5 put} forall d length", "/a 1 2");
        b.leaves("0 /add where pop {pop pop 1 add} forall", "74");
        b.fresh();
        b.due("only one place", b.run("58 {0} repeat << /a 1 >> {} forall"), 2);
        b.due("<< took one", b.error(), "13 -");
        b.fresh();
        b.run("/d << /a 1 >> def 58 {0} repeat");
        b.due("with room for a pair", b.run("d {} forall"), 0);
        b.due("operands", b.machine.count(0), 60);
        b.due("with room for one", b.run("pop d {} forall"), 2);
        b.due("no round can have it", b.error(), "13 -");
        b.due("operands", b.machine.count(0), 60);
        b.due("with room for one behind the first", b.run("clear d /b 2 put"), 2);
        b.fresh();
        b.run("/d << /a 1 /b 2 >> def 57 {0} repeat");
        b.due("with room for one and a half", b.run("d {} forall"), 2);
        b.due("the error", b.error(), "13 forall");
        b.due("no half of it was put", b.machine.count(0), 59);
    }

    private static void exiting(Bench b) {
        b.leaves("3 {1 exit 2} repeat 1 1 5 {dup 2 eq {exit} if} for [7 8] {exit} forall", "1 1 2 7");
        b.leaves("2 {3 {4 exit} repeat 5} repeat", "4 5 4 5");
        b.leaves("{{{exit} exec} exec 1} loop 2", "2");
        b.fails("exit", 12, "exit", "");
        b.fails("{exit} exec", 12, "exit", "");
        b.leaves("{{exit} loop} stopped", "false");
        b.fresh();
        b.due("a stopped before the loop", b.run("{{exit} stopped exit} loop"), 0);
        b.due("the error", b.error(), "12 exit");
        b.due("operands", b.operands(), "true");
    }

    private static void stopping(Bench b) {
        b.leaves("{1 2} stopped 3", "1 2 false 3");
        b.leaves("5 stopped (s) stopped [1] stopped", "5 false (s) false [1] false");
        b.leaves("{1 stop 2} stopped", "1 true");
        b.leaves("{{1 stop} stopped 2} stopped", "1 true 2 false");
        b.leaves("/stop cvx stopped /x 5 def /x cvx stopped", "true 5 false");
        b.leaves("{3 {stop} repeat} stopped", "true");
        b.fails("stopped", 3, "stopped", "");
        b.catches("{1 0 idiv 5} stopped", 7, "idiv", "1 0 true");
        b.catches("/nope cvx stopped", 5, "nope", "true");
        b.catches("/add load stopped", 3, "add", "true");
        b.catches("{{nope} stopped nope} stopped", 5, "nope", "true true");
        b.fresh();
        b.due("stop", b.run("1 stop 2"), 3);
        b.due("operands", b.operands(), "1");
        b.due("no error", b.error(), "0 -");
        noRoom(b);
    }

    private static void noRoom(Bench b) {
        b.fresh();
        b.due("false without room", b.run("58 {0} repeat {1 2} stopped"), 2);
        b.due("the error", b.error(), "13 stopped");
        b.due("operands", b.machine.count(0), 60);
        b.fresh();
        b.due("true without room", b.run("58 {0} repeat {1 2 nope} stopped"), 2);
        b.due("the error", b.error(), "13 stopped");
        b.fresh();
        b.due("true of a stop without room", b.run("58 {0} repeat {1 2 stop} stopped"), 3);
        b.due("the error", b.error(), "13 stopped");
        b.fresh();
        b.due("it goes on to the one before", b.run("{57 {0} repeat {1 2 3 stop} stopped} stopped"), 3);
        b.due("which has no room either", b.error(), "13 stopped");
        b.fresh();
        b.due("room there", b.run("{59 {0} repeat clear 5 stop} stopped"), 0);
        b.due("operands", b.operands(), "5 true");
    }

    private static void quitting(Bench b) {
        b.fresh();
        b.due("quit", b.run("1 {2 quit 3} stopped 4"), 4);
        b.due("operands", b.operands(), "1 2");
        b.due("steps", b.machine.count(3), 5);
        b.due("the rest of the tape is gone", b.run("5"), 0);
        b.due("operands", b.operands(), "1 2 5");
        b.due("EXECUTION is empty", b.run("exit"), 2);
        b.due("the error", b.error(), "12 exit");
    }

    private static void taking(Bench b) {
        b.refusesArgument("run(-1)", () -> b.machine.run(-1));
        b.refusesArgument("run(1001)", () -> b.machine.run(1001));
        b.refusesArgument("run(min)", () -> b.machine.run(Integer.MIN_VALUE));
        b.fresh();
        b.type("1 2 3");
        b.refusesArgument("run(1001)", () -> b.machine.run(1001));
        b.due("the tape is still there", b.machine.run(2), 1);
        b.due("operands", b.operands(), "1 2");
        b.due("the rest is gone", b.machine.run(1000), 0);
        b.due("operands", b.operands(), "1 2");
        b.due("steps", b.machine.count(3), 0);
    }
}
