/**
 * Promise 3: STEPS, and "A run ends before one that would be too many, before its token is read": each program is run with
 * every number of steps up to those that it needs, and what it has done till then is looked at.
 */
public final class Promise03CutsTest {
    public static void main(String[] args) {
        Bench b = new Bench("Promise03CutsTest");
        tokens(b);
        loops(b);
        pairs(b);
        procedures(b);
        nameChains(b);
        ends(b);
        unread(b);
        atTheLimits(b);
        b.end();
    }

    /** With k steps the program leaves operands[k]; with fewer than it needs the run tells 1, with those it needs 0. */
    private static void cuts(Bench b, String text, String... operands) {
        int needed = operands.length - 1;
        for (int k = 0; k <= needed; k++) {
            b.steps(text, k, k < needed ? 1 : 0, k, operands[k]);
            b.due("no error", b.error(), "0 -");
        }
        b.steps(text, 1000, 0, needed, operands[needed]);
    }

    private static void tokens(Bench b) {
        cuts(b, "", "");
        cuts(b, " \n%x\n", "");
        cuts(b, "1", "", "1");
        cuts(b, "1 2 add", "", "1", "1 2", "3");
        cuts(b, "/a (b) [ ] % end", "", "/a", "/a (b)", "/a (b) mark", "/a (b) []");
        cuts(b, "{1 2 {3}} << >>", "", "{1 2 {3}}", "{1 2 {3}} mark", "{1 2 {3}} dict2");
        cuts(b, "clear count", "", "", "0");
    }

    private static void loops(Bench b) {
        cuts(b, "1 1 3 {} for", "", "1", "1 1", "1 1 3", "1 1 3 {}", "", "1", "1 2", "1 2 3");
        cuts(b, "2 -1 1 {neg} for", "", "2", "2 -1", "2 -1 1", "2 -1 1 {neg}", "", "2", "-2", "-2 1", "-2 -1");
        cuts(b, "1 1 0 {} for", "", "1", "1 1", "1 1 0", "1 1 0 {}", "");
        cuts(b, "2 {} repeat", "", "2", "2 {}", "", "", "");
        cuts(b, "2 {7} repeat", "", "2", "2 {7}", "", "", "7", "7", "7 7");
        cuts(b, "0 {7} repeat", "", "0", "0 {7}", "");
        cuts(b, "(ab) {} forall", "", "(ab)", "(ab) {}", "", "97", "97 98");
        cuts(b, "() {} forall", "", "()", "() {}", "");
        cuts(b, "{a} {} forall", "", "{a}", "{a} {}", "", "a");
        cuts(b, "{7 exit} loop 8", "", "{7 exit}", "", "", "7", "7", "7 8");
        b.steps("{} loop", 1, 1, 1, "{}");
        b.steps("{} loop", 2, 1, 2, "");
        b.steps("{} loop", 1000, 1, 1000, "");
        b.steps("2147483647 {} repeat", 1000, 1, 1000, "");
    }

    /** A key that has gone is no round, and no step. */
    private static void pairs(Bench b) {
        cuts(b, "<< /a 1 2 3 >> {} forall", "", "mark", "mark /a", "mark /a 1", "mark /a 1 2", "mark /a 1 2 3", "dict2", "dict2 {}", "",
            "/a 1", "/a 1 2 3");
        cuts(b, "0 dict {} forall", "", "0", "dict2", "dict2 {}", "");
        b.steps("/d << /a 1 /b 2 >> def d {pop pop d /b undef} forall", 17, 0, 17, "");
        b.steps("/d << /a 1 /b 2 >> def d {pop pop d /b undef} forall", 16, 1, 16, "dict2 /b");
        b.steps("/d << /a 1 /b 2 /c 3 >> def d {d /b undef} forall", 19, 1, 19, "/a 1 /c 3 dict2");
        b.steps("/d << /a 1 /b 2 /c 3 >> def d {d /b undef} forall", 20, 1, 20, "/a 1 /c 3 dict2 /b");
        b.steps("/d << /a 1 /b 2 /c 3 >> def d {d /b undef} forall", 21, 0, 21, "/a 1 /c 3");
    }

    private static void procedures(Bench b) {
        cuts(b, "{1 2} exec", "", "{1 2}", "", "1", "1 2");
        cuts(b, "{} exec 3", "", "{}", "", "3");
        cuts(b, "{{1} exec} exec", "", "{{1} exec}", "", "{1}", "", "1");
        cuts(b, "true {1} if", "", "true", "true {1}", "", "1");
        cuts(b, "false {1} if 2", "", "false", "false {1}", "", "2");
        cuts(b, "false {1} {2} ifelse", "", "false", "false {1}", "false {1} {2}", "", "2");
        cuts(b, "{1} stopped", "", "{1}", "", "1 false");
        cuts(b, "{} stopped", "", "{}", "false");
        cuts(b, "5 stopped", "", "5", "5 false");
        cuts(b, "{stop 1} stopped", "", "{stop 1}", "", "true");
        // What an operator executes is no step more.
        cuts(b, "5 exec", "", "5", "5");
        cuts(b, "1 /neg cvx exec", "", "1", "1 /neg", "1 neg", "-1");
        cuts(b, "1 /neg load exec", "", "1", "1 /neg", "1 --neg--", "-1");
        cuts(b, "5 /exec load exec", "", "5", "5 /exec", "5 --exec--", "5");
    }

    /** "an executable name among values: one step more" */
    private static void nameChains(Bench b) {
        cuts(b, "/x 5 def x", "", "/x", "/x 5", "", "5");
        cuts(b, "/x {5} def x", "", "/x", "/x {5}", "", "", "5");
        cuts(b, "/x {} def x", "", "/x", "/x {}", "", "");
        cuts(b, "/x /y def x", "", "/x", "/x /y", "", "/y");
        cuts(b, "/y 5 def /x /y cvx def x", "", "/y", "/y 5", "", "/x", "/x /y", "/x y", "", "", "5");
        cuts(b, "/y 5 def /x /y cvx def /x cvx exec", "", "/y", "/y 5", "", "/x", "/x /y", "/x y", "", "/x", "x", "", "5");
        cuts(b, "/p /pop cvx def 1 p", "", "/p", "/p /pop", "/p pop", "", "1", "1", "");
        b.steps("/x /x cvx def x", 4, 1, 4, "");
        b.steps("/x /x cvx def x", 5, 1, 5, "");
        b.steps("/x /x cvx def x", 1000, 1, 1000, "");
        b.steps("/x /nope cvx def x", 5, 1, 5, "");
        b.due("the name was not looked for", b.error(), "0 -");
        b.steps("/x /nope cvx def x", 6, 2, 6, "");
        b.due("it was", b.error(), "5 nope");
    }

    /** What ends a run is a step as well. */
    private static void ends(Bench b) {
        b.steps("1 quit 2", 1, 1, 1, "1");
        b.steps("1 quit 2", 2, 4, 2, "1");
        b.steps("1 stop 2", 1, 1, 1, "1");
        b.steps("1 stop 2", 2, 3, 2, "1");
        b.steps("1 nope 2", 1, 1, 1, "1");
        b.steps("1 nope 2", 2, 2, 2, "1");
        b.steps("1 ) 2", 1, 1, 1, "1");
        b.steps("1 ) 2", 2, 2, 2, "1");
        b.steps("1 {2 3", 1, 1, 1, "1");
        b.steps("1 {2 3", 2, 2, 2, "1");
        b.steps("{quit 1} stopped 2", 3, 4, 3, "");
    }

    /** "before its token is read": no row is made, no name is met, no error is seen. */
    private static void unread(Bench b) {
        for (String text : new String[] {"(abc)", "{1 2}", "/new", "new", ")", "(", "{", "0123456789abcdefg", "{{{{{{{{{"}) {
            b.steps("1 " + text, 1, 1, 1, "1");
            b.due("no error", b.error(), "0 -");
            b.due("names", b.machine.count(4), 83);
            b.due("values", b.machine.count(5), 0);
            b.due("bytes", b.machine.count(6), 0);
            b.due("what was not read is gone", b.machine.run(1000), 0);
            b.due("steps", b.machine.count(3), 0);
        }
    }

    /** "(0 .. 1000 .." */
    private static void atTheLimits(Bench b) {
        b.steps("/f {f} def f", 999, 1, 999, "");
        b.steps("/f {f} def f", 1000, 1, 1000, "");
        b.steps("997 {} repeat", 1000, 0, 1000, "");
        b.steps("998 {} repeat", 1000, 1, 1000, "");
        b.steps("1", 0, 1, 0, "");
        b.steps("", 0, 0, 0, "");
    }
}
