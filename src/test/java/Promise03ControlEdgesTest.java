/** Promise 3: the edges of what executes values, of loops and of stops, each with a test of its own. */
public final class Promise03ControlEdgesTest {
    private static final String MIN = "-2147483648";
    private static final String MAX = "2147483647";

    public static void main(String[] args) {
        Bench b = new Bench("Promise03ControlEdgesTest");
        executing(b);
        finding(b);
        branching(b);
        counting(b);
        repeating(b);
        overRows(b);
        overPairs(b);
        exiting(b);
        stopping(b);
        quitting(b);
        b.end();
    }

    /** "An executable array that is met as a token, or within a procedure, is put"; by name or operator it is executed. */
    private static void executing(Bench b) {
        b.leaves("{1}", "{1}");
        b.leaves("{{1}} exec", "{1}");
        b.leaves("{{1} exec} exec", "1");
        b.leaves("/p {1 {2}} def p", "1 {2}");
        b.leaves("{} exec", "");
        b.leaves("/p {} def p p", "");
        b.leaves("null exec 1 exec true exec mark exec /a exec [1] exec (s) exec currentdict exec", "null 1 true mark /a [1] (s) dict1");
        b.leaves("1 2 /add load exec 3 /add cvx exec", "6");
        b.leaves("/x 5 def /x cvx exec /x load exec", "5 5");
        b.leaves("/x [1] def x /y (s) def y /z null def z /d currentdict def d", "[1] (s) null dict1");
        b.leaves("{1 2} cvlit exec", "[1 2]");
        b.leaves("[1 2 /add cvx] cvx exec [1 2 /add load] cvx exec", "3 3");
        b.leaves("[{7}] cvx exec", "{7}");
        b.leaves("{1 2 3} 1 1 getinterval exec {1 2} 0 0 getinterval exec", "2");
        // Its values are read one by one: one that is put before its turn is the one that is executed.
        b.leaves("/p {/p load 5 9 put 5} def p", "9");
        b.leaves("/p {8 7} def /p load 1 5 put p", "8 5");
    }

    /** "looked for in the dictionaries, the last one first"; "error 5 if it is nowhere" */
    private static void finding(Bench b) {
        b.fails("x", 5, "x", "");
        b.fails("nulltype", 5, "nulltype", "");
        b.leaves("/x 1 def x 1 dict begin x /x 2 def x end x", "1 1 2 1");
        b.fails("1 dict begin /x 1 def end x", 5, "x", "");
        b.leaves("/pop 5 def pop currentdict /pop undef pop", "");
        b.leaves("/x /y cvx def /y /z cvx def /z {7} def x", "7");
        b.fails("/x /y cvx def x", 5, "y", "");
        b.leaves("(]) {9} def [1 ]", "mark 1 9");
    }

    private static void branching(Bench b) {
        b.leaves("true {} if false {} if true {} {} ifelse", "");
        b.leaves("true {1} if false {2} if", "1");
        b.leaves("true {1} {2} ifelse false {1} {2} ifelse", "1 2");
        b.leaves("true {{1}} if", "{1}");
        b.leaves("3 true {1} if false {2} {4} ifelse", "3 1 4");
    }

    /** "for i, i + j, .. as longs, as long as it is not beyond the limit: it is put, and p executed" */
    private static void counting(Bench b) {
        b.leaves("1 1 1 {} for 1 -1 1 {} for", "1 1");
        b.leaves("2 1 1 {7} for 1 -1 2 {7} for", "");
        b.leaves("1 1 3 {} for 3 -1 1 {} for", "1 2 3 3 2 1");
        b.leaves("0 2 5 {} for 5 -2 0 {} for", "0 2 4 5 3 1");
        b.leaves("0 2 4 {} for 4 -2 0 {} for", "0 2 4 4 2 0");
        b.leaves("-1 1 1 {} for 1 -1 -1 {} for", "-1 0 1 1 0 -1");
        b.leaves("0 5 4 {} for 0 -5 -4 {} for", "0 0");
        // As longs: the number behind the last one is no wrapped one.
        b.leaves(MAX + " 1 " + MAX + " {} for " + MIN + " -1 " + MIN + " {} for", MAX + " " + MIN);
        b.leaves("2147483646 2 " + MAX + " {} for -2147483647 -2 " + MIN + " {} for", "2147483646 -2147483647");
        b.leaves(MAX + " " + MAX + " " + MAX + " {} for " + MIN + " " + MIN + " " + MIN + " {} for", MAX + " " + MIN);
        b.leaves("0 " + MAX + " " + MAX + " {} for 0 " + MIN + " " + MIN + " {} for", "0 " + MAX + " 0 " + MIN);
        b.leaves(MIN + " " + MAX + " " + MAX + " {} for", MIN + " -1 2147483646");
        b.leaves(MAX + " " + MIN + " " + MIN + " {} for", MAX + " -1");
        b.fails("1 0 3 {} for", 6, "for", "1 0 3 {}");
        b.fails("0 0 0 {} for", 6, "for", "0 0 0 {}");
        // What p does to the number changes no round.
        b.leaves("1 1 3 {pop 9} for", "9 9 9");
        b.leaves("1 1 3 {clear} for", "");
    }

    /** "repeat: n (6 below 0), p" */
    private static void repeating(Bench b) {
        b.leaves("0 {7} repeat 1 {7} repeat 2 {8} repeat", "7 8 8");
        b.fails("-1 {} repeat", 6, "repeat", "-1 {}");
        b.fails(MIN + " {} repeat", 6, "repeat", MIN + " {}");
        b.steps(MAX + " {} repeat", 10, 1, 10, "");
        b.leaves("2 {2 {7} repeat} repeat", "7 7 7 7");
        b.leaves("0 {1 add dup 3 eq {exit} if} loop", "3");
    }

    /** "forall: an array, string or dictionary, p: each value (byte; key, then value) is put, and p executed" */
    private static void overRows(Bench b) {
        b.leaves("[] {7} forall () {7} forall {} {7} forall 0 dict {7} forall", "");
        b.leaves("[1] {} forall (\377) {} forall {x} {} forall", "1 255 x");
        b.leaves("[1 {2} (s)] {} forall", "1 {2} (s)");
        b.leaves("[1 2 3 4] 1 2 getinterval {} forall (abcd) 3 1 getinterval {} forall", "2 3 100");
        // A value that is put into the row before its round is the one of that round.
        b.leaves("/r [1 2 3] def r {pop r 2 9 put} forall r 2 get", "9");
        b.leaves("/r [1 2 3] def r {r 1 9 put} forall", "1 9 3");
        b.leaves("/r (abc) def r {r 2 0 put} forall", "97 98 0");
        b.leaves("200 string {pop} forall 200 array {pop} forall", "");
    }

    /** "of a dictionary the pairs that it had at first, with the values that they have then, those that are still there" */
    private static void overPairs(Bench b) {
        b.leaves("<< /a 1 2 /b true null >> {} forall", "/a 1 2 /b true null");
        b.leaves("/d << /a 1 /b 2 >> def d {d /b 9 put} forall", "/a 1 /b 9");
        b.leaves("/d << /a 1 /b 2 >> def d {d /b undef} forall", "/a 1");
        b.leaves("/d << /a 1 /b 2 >> def d {d /a undef} forall", "/a 1 /b 2");
        b.leaves("/d << /a 1 /b 2 /c 3 >> def d {d /a undef d /b undef} forall", "/a 1 /c 3");
        b.leaves("/d << /a 1 /b 2 /c 3 >> def d {pop d exch undef} forall d length", "0");
        b.leaves("/d 3 dict def d /a 1 put d {pop pop d /b 2 put d /c 3 put} forall d length", "3");
        b.leaves("/d << /a 1 >> def d {pop pop d /a undef d /b 2 put} forall d /b known", "true");
        b.leaves("/d << /a 1 /b 2 >> def d {d {pop} forall} forall", "/a 1 /a /b /b 2 /a /b");
        b.leaves("/n 0 def /pop where pop {pop pop /n n 1 add def} forall n", "74");
        b.fresh();
        b.endsHere("/d << 29 {count dup} repeat >> def 0 d {pop pop 1 add} forall");
        b.due("29 pairs", b.operands(), "29");
    }

    /** "exit: the innermost loop ends, and all within it (12 where a STOPPED comes before one, or there is none)" */
    private static void exiting(Bench b) {
        b.fails("exit", 12, "exit", "");
        b.fails("{exit} exec", 12, "exit", "");
        b.fails("true {exit} if", 12, "exit", "");
        b.fails("3 {} repeat exit", 12, "exit", "");
        b.leaves("{exit} loop 3 {exit} repeat 1 1 3 {exit} for (ab) {exit} forall << /a 2 >> {exit} forall", "1 97 /a 2");
        b.leaves("2 {7 {exit} loop 8} repeat", "7 8 7 8");
        b.leaves("{7 {exit 8} exec 9} loop", "7");
        b.leaves("{true {exit} if} loop", "");
        b.leaves("/x {exit} def {7 x 8} loop", "7");
        b.leaves("{/exit cvx exec} loop {/exit load exec} loop", "");
        b.leaves("{{{exit} loop} stopped exit} loop", "false");
        b.catches("{exit} stopped", 12, "exit", "true");
        b.catches("{{exit} stopped exit} loop", 12, "exit", "true");
        b.catches("{/exit cvx stopped exit} loop", 12, "exit", "true");
        b.catches("2 {{exit} stopped} repeat", 12, "exit", "true true");
        b.catches("{{exit} loop exit} stopped", 12, "exit", "true");
    }

    /** "EXECUTION is taken off up to the latest STOPPED there, and true is put"; "stopped: .. behind it puts false" */
    private static void stopping(Bench b) {
        b.leaves("{} stopped {1} stopped", "false 1 false");
        b.leaves("null stopped /a stopped [1] stopped", "null false /a false [1] false");
        b.leaves("{stop} stopped {1 stop 2} stopped", "true 1 true");
        b.leaves("/stop cvx stopped /stop load stopped", "true true");
        b.leaves("{{stop} stopped} stopped", "true false");
        b.leaves("{{stop} stopped stop} stopped", "true true");
        b.leaves("{{{stop} exec} loop} stopped", "true");
        b.leaves("{3 {stop} repeat} stopped 1 {2} repeat", "true 2");
        b.leaves("/x {stop} def /x cvx stopped {x} stopped", "true true");
        b.leaves("3 {{stop} stopped} repeat", "true true true");
        b.leaves("1 2 /add load stopped 3 /pop cvx stopped", "3 false false");
        b.catches("{nope} stopped", 5, "nope", "true");
        b.catches("{1 2 nope 3} stopped 4", 5, "nope", "1 2 true 4");
        b.catches("{{nope} stopped} stopped", 5, "nope", "true false");
        b.catches("{{nope} stopped nope2} stopped", 5, "nope2", "true true");
        b.catches("{2 {nope} repeat} stopped", 5, "nope", "true");
        for (String text : new String[] {"stop", "{stop} exec", "{stop} loop", "{stop} stopped pop stop", "true {stop} if"}) {
            b.fresh();
            b.due(text, b.run(text + " 9"), 3);
            b.due(text + " leaves", b.operands(), "");
            b.due(text + " notes nothing", b.error(), "0 -");
        }
    }

    private static void quitting(Bench b) {
        for (String text : new String[] {"quit", "{quit} exec", "{quit} loop", "{quit} stopped", "/quit cvx exec", "{{quit} loop} stopped"}) {
            b.fresh();
            b.due(text, b.run(text + " 9"), 4);
            b.due(text + " leaves", b.operands(), "");
            b.due(text + " notes nothing", b.error(), "0 -");
        }
    }
}
