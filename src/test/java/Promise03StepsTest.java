/** Promise 3: the steps that a run takes, and the places on EXECUTION. */
public final class Promise03StepsTest {
    public static void main(String[] args) {
        Bench b = new Bench("Promise03StepsTest");
        counting(b);
        usedUp(b);
        recursion(b);
        execution(b);
        b.end();
    }

    private static void counting(Bench b) {
        b.steps("", 0, 0, 0, "");
        b.steps(" %x\n ", 0, 0, 0, "");
        b.steps("1 2 add", 3, 0, 3, "3");
        b.steps("{1 2 {3} (a)}", 1, 0, 1, "{1 2 {3} (a)}");
        b.steps("{1 2} exec", 4, 0, 4, "1 2");
        b.steps("{} exec", 2, 0, 2, "");
        b.steps("5 exec", 2, 0, 2, "5");
        b.steps("1 /neg cvx exec", 4, 0, 4, "-1");
        b.steps("/x 5 def x", 4, 0, 4, "5");
        b.steps("/x /y cvx def /y /z cvx def /z 1 def x", 14, 0, 14, "1");
        b.steps("/x /y cvx def /y 1 def /x cvx exec", 11, 0, 11, "1");
        b.steps("3 {} repeat", 6, 0, 6, "");
        b.steps("3 {1} repeat", 9, 0, 9, "1 1 1");
        b.steps("0 {1} repeat", 3, 0, 3, "");
        b.steps("1 1 2 {} for", 7, 0, 7, "1 2");
        b.steps("(ab) {} forall", 5, 0, 5, "97 98");
        b.steps("{exit} loop", 4, 0, 4, "");
        b.steps("{1} stopped", 3, 0, 3, "1 false");
        b.steps("{} stopped", 2, 0, 2, "false");
        b.steps("true {1} if", 4, 0, 4, "1");
        b.steps("1 )", 5, 2, 2, "1");
        b.steps("1 {2 (", 5, 2, 2, "1");
        b.steps("1 quit", 5, 4, 2, "1");
    }

    private static void usedUp(Bench b) {
        b.steps("1", 0, 1, 0, "");
        b.steps("1 2 add", 2, 1, 2, "1 2");
        b.steps("{1 2} exec", 3, 1, 3, "1");
        b.steps("{} loop", 1000, 1, 1000, "");
        b.steps("3 {1} repeat", 5, 1, 5, "1");
        b.steps("3 {1} repeat", 6, 1, 6, "1");
        b.steps("/x /y cvx def /y 1 def x", 8, 1, 8, "");
        b.steps("/x /x cvx def x", 1000, 1, 1000, "");
        b.steps("{1} stopped", 2, 1, 2, "");
        b.steps("/abc", 0, 1, 0, "");
        b.due("the token was not read", b.machine.count(4), 83);
        b.steps(")", 0, 1, 0, "");
        b.due("no error", b.error(), "0 -");
        b.steps("{1 2 3", 0, 1, 0, "");
        b.due("no error", b.error(), "0 -");
        b.steps("{", 1, 2, 1, "");
    }

    private static void recursion(Bench b) {
        // The last value is executed when its procedure has gone already.
        b.steps("/f {f} def f", 1000, 1, 1000, "");
        b.steps("/f {pop 1 f} def 0 f", 1000, 1, 1000, "1");
        b.fails("/f {f 0} def f", 2, "f", "");
        b.due("steps", b.machine.count(3), 4 + 23);
        b.fails("/n 0 def /f {/n n 1 add def f 0} def f", 2, "f", "");
        b.due("depth", b.machine.dictionary(1, 0, 3), 23);
    }

    /** Runs the text at a depth of EXECUTION that leaves so many places. */
    private static void atDepth(Bench b, int left, String text) {
        b.fresh();
        b.run("/t {" + text + " 0 pop} def /n 0 def");
        // f calls itself with its frame still there; the last one is t's.
        b.run("/f {/n n 1 sub def n 0 eq {t} {f} ifelse 0 pop} def");
        // The program, each f, the branch that calls the next one has gone; and t itself.
        b.run("/n " + (24 - 1 - 1 - left) + " def");
        b.due("run at depth with " + left + " left of " + text, b.run("f"), 0);
    }

    private static void execution(Bench b) {
        atDepthFails(b, 0, "true {} if", "2 if", "true {}");
        atDepthFails(b, 0, "false {} if", "2 if", "false {}");
        atDepthFails(b, 0, "true {} {} ifelse", "2 ifelse", "true {} {}");
        atDepthFails(b, 0, "{} exec", "2 exec", "{}");
        atDepthFails(b, 0, "/e cvx exec", "2 e", "");
        atDepthFails(b, 0, "e", "2 e", "");
        atDepthFails(b, 0, "-1 {} repeat", "6 repeat", "-1 {}");
        atDepth(b, 0, "5 exec pop 1 2 /add cvx exec pop");
        atDepth(b, 1, "true {} if false {} if {} exec");
        for (int left = 0; left < 2; left++) {
            atDepthFails(b, left, "0 {} repeat", "2 repeat", "0 {}");
            atDepthFails(b, left, "{} loop", "2 loop", "{}");
            atDepthFails(b, left, "1 1 0 {} for", "2 for", "1 1 0 {}");
            atDepthFails(b, left, "() {} forall", "2 forall", "() {}");
            atDepthFails(b, left, "5 stopped", "2 stopped", "5");
        }
        atDepth(b, 2, "2 {1 pop} repeat {exit} loop 1 1 2 {pop} for (a) {pop} forall {} stopped pop");
    }

    private static void atDepthFails(Bench b, int left, String text, String error, String operands) {
        b.fresh();
        b.run("/e {} def /t {" + text + " 0 pop} def");
        b.run("/f {/n n 1 sub def n 0 eq {t} {f} ifelse 0 pop} def");
        b.run("/n " + (24 - 1 - 1 - left) + " def");
        b.due("run at depth with " + left + " left of " + text, b.run("f"), 2);
        b.due("its error", b.error(), error);
        b.due("its operands", b.operands(), operands);
    }
}
