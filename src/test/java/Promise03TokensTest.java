/** Promise 3: how the tape is read token by token. */
public final class Promise03TokensTest {
    public static void main(String[] args) {
        Bench b = new Bench("Promise03TokensTest");
        parting(b);
        numbers(b);
        names(b);
        strings(b);
        procedures(b);
        none(b);
        limits(b);
        firstComes(b);
        b.end();
    }

    private static void parting(Bench b) {
        b.leaves("", "");
        b.leaves(" \t\r\n\0 ", "");
        b.leaves("1%2 3\n4", "1 4");
        b.leaves("1 % 2 \r 3", "1");
        b.leaves("%", "");
        b.leaves("/a/b", "/a /b");
        b.leaves("1[2]3(4)5{6}7<<8 9>>10", "1 [2] 3 (4) 5 {6} 7 dict2 10");
        b.leaves("/a%b\n/c", "/a /c");
        b.leaves("1\0012", "1 2");
        b.leaves("[%]\n]", "[]");
    }

    private static void numbers(Bench b) {
        b.leaves("0 7 +7 -7 007 -0 +0", "0 7 7 -7 7 0 0");
        b.leaves("2147483647 2147483648 -2147483648 -2147483649", "2147483647 -2147483648 -2147483648 2147483647");
        b.leaves("4294967296 4294967301 00000000000000000000000012", "0 5 12");
        b.leaves("2#101 16#fF 36#Zz 8#17 08#17 10#99", "5 255 1295 15 15 99");
        b.leaves("16#FFFFFFFF 16#100000001 2#0 11#aA 36#zZ", "-1 1 0 120 1295");
        String[] others = {
            "+", "-", "+-1", "1-", "1+1", "1.0", "2#", "#1", "2#2", "1#0", "0#0", "37#1", "99#1", "016#1", "+2#1",
            "-2#1", "2#1#1", "2#-1", "16#g", "1e3", "--1", "a1",
        };
        for (String other : others) {
            b.fails(other, 5, other, "");
        }
    }

    private static void names(Bench b) {
        b.leaves("/x /1 /+1 /a.b / /~!\"#$&'*+,-./", "/x /1 /+1 /a.b / /~!\"#$&'*+,-. /");
        b.leaves("/0123456789abcdef", "/0123456789abcdef");
        b.fails("/0123456789abcdefg", 2, "-", "");
        b.due("no name was met", b.machine.count(4), 83);
        b.fails("0123456789abcdefg", 2, "-", "");
        b.fails("/A a", 5, "a", "/A");
        b.due("both were met", b.machine.count(4), 85);
        b.leaves("/ 5 def / cvx exec", "5");
        b.leaves("([) 5 def [", "5");
    }

    private static void strings(Bench b) {
        b.leaves("() (a b) (a(b)c) (%) ({) (/x)", "() (a b) (a(b)c) (%) ({) (/x)");
        b.leaves("(\\)) (\\() (\\\\) (\\n) (a\\(b)", "()) (() (\\) (n) (a(b)");
        b.leaves("(\n\0)", "(\n\0)");
    }

    private static void procedures(Bench b) {
        b.leaves("{}", "{}");
        b.leaves("{1 /a a (s) {2} [ ] << >> true}", "{1 /a a (s) {2} [ ] << >> true}");
        b.leaves("{%}\n1}", "{1}");
        b.leaves("{{{{{{{{}}}}}}}}", "{{{{..}}}}");
        b.due("rows", b.machine.count(5), 7);
        b.leaves("{}{}{1}", "{} {} {1}");
        b.leaves("{ (}) }", "{(})}");
    }

    private static void none(Bench b) {
        String[] wrong = {")", "}", "<", ">", "\177", "\200", "\377", "< <", "> >", "(", "(()", "(\\)", "{", "{{}", "{(}", "{)}", "{<}",
            "{1 \377 }", "(\\", "<a>"};
        for (String text : wrong) {
            b.fails("1 " + text, 1, "-", "1");
            b.due("steps of " + text, b.machine.count(3), 2);
        }
        b.fails("<<<", 1, "-", "mark");
        b.fails("abc\377", 5, "abc", "");
        b.fails("/abc\377", 1, "-", "/abc");
        b.fails("(abc", 1, "-", "");
        b.due("no row was made", b.machine.count(6), 0);
        b.fails("{a (bc) {d} ", 1, "-", "");
        b.due("names met before the end", b.machine.count(4), 85);
        b.due("rows made before the end", b.machine.count(5), 1);
        b.due("bytes made before the end", b.machine.count(6), 2);
        b.leaves("(\200\377)", "(\200\377)");
        goneTape(b);
        b.leaves("%\200\377\n", "");
    }

    /** What an earlier run had on its tape is nothing behind the end of a later one's. */
    private static void goneTape(Bench b) {
        String[][] texts = {{"<<", "<"}, {"[ >>", "[ >"}, {"(a)", "(a"}, {"(\\a)", "(\\"}, {"{1}", "{1"}};
        for (String[] text : texts) {
            b.fresh();
            b.run(text[0]);
            b.due(text[1] + " behind " + text[0], b.run(text[1]), 2);
            b.due("its error", b.error(), "1 -");
        }
        b.fresh();
        b.run("123 /abc");
        b.due("12 behind 123", b.run("12"), 0);
        b.due("operands", b.operands(), "123 /abc 12");
    }

    private static void limits(Bench b) {
        b.fails("{{{{{{{{{}}}}}}}}}", 2, "-", "");
        b.due("no row was made", b.machine.count(5), 0);
        b.fails("{{} {{{{{{{{", 2, "-", "");
        fullArrays(b);
        fullStrings(b);
        fullNames(b);
    }

    private static void fullArrays(Bench b) {
        b.fresh();
        b.due("599 values", b.run("200 array 200 array 199 array clear"), 0);
        b.due("two more", b.run("{1 2}"), 2);
        b.due("the error", b.error(), "2 -");
        b.due("none was made", b.machine.count(5), 599);
        b.due("one more, within", b.run("{{1} 2}"), 2);
        b.due("it was made", b.machine.count(5), 600);
        b.due("an empty one", b.run("{} 0 array [ ]"), 0);
        b.due("operands", b.operands(), "{} [] []");
        b.due("its place", b.machine.at(0, 1), 600);
        b.due("[ 1 ]", b.run("[ 1 ]"), 2);
        b.due("the error", b.error(), "2 ]");
        b.due("operands of it", b.operands(), "{} [] [] mark 1");
    }

    private static void fullStrings(Bench b) {
        b.fresh();
        b.due("598 bytes", b.run("200 string 200 string 198 string clear"), 0);
        b.due("three more", b.run("(abc)"), 2);
        b.due("the error", b.error(), "2 -");
        b.due("none was made", b.machine.count(6), 598);
        b.due("two more", b.run("(ab) ()"), 0);
        b.due("operands", b.operands(), "(ab) ()");
        b.due("a byte more", b.run("1 string"), 2);
        b.due("the error", b.error(), "2 string");
    }

    private static void fullNames(Bench b) {
        b.fresh();
        for (int i = 83; i < 160; i++) {
            b.run("/n" + i + " pop");
        }
        b.due("names", b.machine.count(4), 160);
        b.due("one more", b.run("/another"), 2);
        b.due("the error", b.error(), "2 -");
        b.due("an executable one", b.run("another"), 2);
        b.due("the error", b.error(), "2 -");
        b.due("one that is there", b.run("/n100"), 0);
        b.due("a string as a key", b.run("currentdict (other) known"), 2);
        b.due("the error", b.error(), "2 known");
        b.due("operands", b.operands(), "/n100 dict1 (other)");
        b.due("before 9", b.run("0 dict (other) 1 put"), 2);
        b.due("the error", b.error(), "2 put");
        b.due("behind 4", b.run("1 (other) 1 put"), 2);
        b.due("the error", b.error(), "4 put");
    }

    private static void firstComes(Bench b) {
        b.fails("{0123456789abcdefg )", 2, "-", "");
        b.fails("{) 0123456789abcdefg", 1, "-", "");
        b.fails("{0123456789abcdefg", 2, "-", "");
        b.fails("0123456789abcdefg\377", 2, "-", "");
        b.fails("{{{{{{{{{)", 2, "-", "");
        b.fails("{{{{{{{{)", 1, "-", "");
    }
}
