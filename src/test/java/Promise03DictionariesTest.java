/** Promise 3: the operators of dictionaries and of their stack. */
public final class Promise03DictionariesTest {
    public static void main(String[] args) {
        Bench b = new Bench("Promise03DictionariesTest");
        making(b);
        stack(b);
        defining(b);
        finding(b);
        ofOne(b);
        system(b);
        strings(b);
        b.end();
    }

    private static void making(Bench b) {
        b.leaves("0 dict maxlength 20 dict maxlength currentdict maxlength", "0 20 20");
        b.leaves("0 dict 0 dict", "dict2 dict3");
        b.fails("21 dict", 6, "dict", "21");
        b.fails("-1 dict", 6, "dict", "-1");
        b.fails("(a) dict", 4, "dict", "(a)");
        b.fails("19 {1 dict pop} repeat", 2, "dict", "1");
        b.due("dictionaries", b.machine.count(7), 20);
        b.due("<< >> then", b.run("<< >>"), 2);
        b.due("the error", b.error(), "2 >>");
        b.leaves("7 << /a 1 (b) 2 3 true false null >> dup length exch maxlength", "7 4 4");
        b.due("its pairs", b.pairs(2), "4:83 1:1, 4:84 1:2, 1:3 2:1, 2:0 0:0");
        b.leaves("<< >> maxlength", "0");
        b.leaves("<< /a 1 /b 2 /a cvx 3 (b) 4 >> length", "2");
        b.due("the later values", b.pairs(2), "4:83 1:3, 4:84 1:4");
        b.fails("1 2 >>", 8, ">>", "1 2");
        b.fails("<< null >>", 6, ">>", "mark null");
        b.fails("<< /a 1 null 2 >>", 4, ">>", "mark /a 1 null 2");
        b.fails("<< (aaaaaaaaaaaaaaaaa) 1 null 2 >>", 4, ">>", "mark (aaaaaaaaaaaaaaaaa) 1 null 2");
        b.fails("<< (a) 1 (aaaaaaaaaaaaaaaaa) 2 (b) 3 >>", 2, ">>", "mark (a) 1 (aaaaaaaaaaaaaaaaa) 2 (b) 3");
        b.due("names met till then", b.machine.count(4), 84);
        b.leaves("<< 29 {count 0} repeat >> length", "29");
        largest(b);
    }

    /** As many dictionaries as there may be, each as large as it may be. */
    private static void largest(Bench b) {
        b.fresh();
        b.due("18 of 29 pairs", b.run("18 {<< 29 {count dup} repeat >> pop} repeat", 1000), 1);
        for (int i = 0; i < 18; i++) {
            b.run("clear << 29 {count dup} repeat >>");
        }
        b.due("dictionaries", b.machine.count(7), 20);
        b.due("the last one's room", b.machine.dictionary(19, -1, 0), 29);
        b.due("the last one's pairs", b.machine.dictionary(19, -2, 0), 29);
        b.due("its last pair", b.machine.dictionary(19, 28, 3), 57);
        b.due("the first one's last pair", b.machine.dictionary(2, 28, 3), 57);
    }

    private static void stack(Bench b) {
        b.leaves("2 dict begin currentdict countdictstack end currentdict", "dict2 3 dict1");
        b.fails("end", 10, "end", "");
        b.fails("8 {currentdict begin} repeat 5 dict begin", 11, "begin", "dict2");
        b.due("dictionaries on their stack", b.machine.count(1), 10);
        b.fails("5 begin", 4, "begin", "5");
        b.fails("begin", 3, "begin", "");
        b.leaves("/x 1 def 2 dict begin x /x 2 def x end x", "1 2 1");
    }

    private static void defining(Bench b) {
        b.leaves("/x 1 def x /x 2 def x", "1 2");
        b.leaves("/x cvx 1 def x", "1");
        b.leaves("5 (five) def 5 load true (yes) def true load", "(five) (yes)");
        b.leaves("1 /a def true /b def 1 load true load", "/a /b");
        b.fails("null 1 def", 4, "def", "null 1");
        b.fails("[] 1 def", 4, "def", "[] 1");
        b.fails("/add load 1 def", 4, "def", "--add-- 1");
        b.fails("1 def", 3, "def", "1");
        b.fails("1 dict begin /a 1 def /a 2 def /b 3 def", 9, "def", "/b 3");
        b.leaves("/x 1 def 2 dict begin /x 5 store /y 6 store end x", "5");
        b.due("USER", b.pairs(1), "4:83 1:5");
        b.due("the last one", b.pairs(2), "4:84 1:6");
        b.fails("0 dict begin /x 1 store", 9, "store", "/x 1");
        b.fails("mark 1 store", 4, "store", "mark 1");
    }

    private static void finding(Bench b) {
        b.leaves("/x 5 def /x load /add load", "5 --add--");
        b.leaves("/p {1} def /p load", "{1}");
        b.fails("/x load", 5, "load", "/x");
        b.fails("null load", 4, "load", "null");
        b.leaves("/add where /x where", "dict0 true false");
        b.leaves("/x 1 def 2 dict begin /x where 1 dict begin /x 2 def /x where", "dict1 true dict3 true");
        b.fails("{} where", 4, "where", "{}");
        b.fresh();
        b.run("59 {null} repeat");
        b.due("where at 60", b.run("/add where"), 2);
        b.due("the error", b.error(), "13 where");
        b.due("operands", b.machine.count(0), 60);
        b.due("where of none at 60", b.run("pop /addd where"), 0);
        b.due("operands", b.machine.count(0), 60);
    }

    private static void ofOne(Bench b) {
        b.leaves("1 dict dup /a 5 put dup /a get exch /b known", "5 false");
        b.leaves("currentdict /a known /a 1 def currentdict /a known currentdict (a) known", "false true true");
        b.fails("1 dict /a get", 5, "get", "dict2 /a");
        b.fails("1 dict null get", 4, "get", "dict2 null");
        b.fails("1 dict [] 5 put", 4, "put", "dict2 [] 5");
        b.fails("0 dict /a 5 put", 9, "put", "dict2 /a 5");
        b.fails("/a /a known", 4, "known", "/a /a");
        b.fails("1 dict null known", 4, "known", "dict2 null");
        b.leaves("/a 1 def /b 2 def /c 3 def currentdict /a undef currentdict /a undef currentdict length", "2");
        b.due("USER", b.pairs(1), "4:84 1:2, 4:85 1:3");
        b.fails("1 dict null undef", 4, "undef", "dict2 null");
        b.leaves("1 dict begin /a 1 def currentdict /a undef /b 2 def b", "2");
        b.fails("5 maxlength", 4, "maxlength", "5");
    }

    private static void system(Bench b) {
        b.fails("/add where pop /add 5 put", 9, "put", "dict0 /add 5");
        b.fails("/add where pop /new 5 put", 9, "put", "dict0 /new 5");
        b.fails("/add where pop null 5 put", 4, "put", "dict0 null 5");
        b.fails("/add where pop /x undef", 9, "undef", "dict0 /x");
        b.fails("/add where pop begin /x 5 def", 9, "def", "/x 5");
        b.fails("/add 5 store", 9, "store", "/add 5");
        b.leaves("/add 5 def /add 6 store add", "6");
        b.leaves("/add where pop dup length exch maxlength", "74 74");
        b.leaves("/add where pop dup /sub known exch /x known", "true false");
        b.leaves("/add where pop /mul get", "--mul--");
        b.leaves("/add where pop 5 known", "false");
        b.leaves("/print where pop dup /print known exch /nulltype known", "true false");
        b.fails("nulltype", 5, "nulltype", "");
        b.leaves("1 (pop) cvx pop (pop) load (print) load", "1 --pop-- --print--");
    }

    private static void strings(Bench b) {
        b.leaves("(x) 5 def x (x) load /x load", "5 5 5");
        b.fails("(y) load", 5, "load", "(y)");
        b.due("the name was met", b.machine.count(4), 84);
        b.fails("(0123456789abcdefg) load", 2, "load", "(0123456789abcdefg)");
        b.fails("(0123456789abcdefg) where", 2, "where", "(0123456789abcdefg)");
        b.fails("0 dict (0123456789abcdefg) 1 put", 2, "put", "dict2 (0123456789abcdefg) 1");
        b.fails("(q) def", 3, "def", "(q)");
        b.due("none was met", b.machine.count(4), 83);
        b.fails("0 dict begin (q) 1 def", 9, "def", "(q) 1");
        b.due("it was met, whatever came of it", b.machine.count(4), 84);
        b.leaves("() 5 def / cvx exec", "5");
        b.leaves("(abc) dup 0 2 getinterval 7 def ab", "(abc) 7");
    }
}
