/** Promise 3: the edges of the operators of dictionaries, each with a test of its own. */
public final class Promise03PairEdgesTest {
    private static final String MIN = "-2147483648";
    private static final String MAX = "2147483647";

    public static void main(String[] args) {
        Bench b = new Bench("Promise03PairEdgesTest");
        making(b);
        closing(b);
        keys(b);
        order(b);
        rooms(b);
        stack(b);
        finding(b);
        storing(b);
        undefining(b);
        system(b);
        b.end();
    }

    /** "dict: n 0 .. 20 (6), a dictionary with that room" */
    private static void making(Bench b) {
        for (String n : new String[] {"-1", "21", MIN, MAX}) {
            b.fails(n + " dict", 6, "dict", n);
            b.due("dictionaries", b.machine.count(7), 2);
        }
        for (int n = 0; n <= 20; n += 5) {
            b.leaves(n + " dict dup maxlength exch length", n + " 0");
        }
        b.leaves("1 dict maxlength 19 dict maxlength", "1 19");
    }

    /** ">>: likewise pairs a dictionary, with room for just these .. a key again takes the later value" */
    private static void closing(Bench b) {
        b.leaves("<< >> dup length exch maxlength", "0 0");
        b.fails("<< >> /a 1 put", 9, "put", "dict2 /a 1");
        b.leaves("<< /a 1 >> dup length exch maxlength", "1 1");
        b.fails("<< /a 1 >> /b 1 put", 9, "put", "dict2 /b 1");
        b.leaves("<< /a 1 >> dup /a 2 put /a get", "2");
        b.leaves("<< /a 1 /b 2 (a) 3 /a cvx 4 >> length", "2");
        b.due("its pairs", b.pairs(2), "4:83 1:4, 4:84 1:2");
        b.leaves("<< 1 2 true 3 false 4 (s) 5 / 6 >> length", "5");
        b.leaves("7 << 1 << 2 3 >> >>", "7 dict3");
        b.leaves("mark << 1 2 >>", "mark dict2");
        b.leaves("<< 29 {count 7} repeat >> dup length exch maxlength", "29 29");
        b.due("the first key", b.machine.dictionary(2, 0, 1), 1);
        b.due("the last key", b.machine.dictionary(2, 28, 1), 57);
        b.fails("<< 29 {count 7} repeat 8 >>", 6, ">>", "mark" + closingText() + " 8");
    }

    private static String closingText() {
        StringBuilder all = new StringBuilder();
        for (int i = 0; i < 29; i++) {
            all.append(' ').append(1 + 2 * i).append(" 7");
        }
        return all.toString();
    }

    /** "Keys are names (literal or not: they are literal in it), numbers, true and false; a string stands for the name of its bytes." */
    private static void keys(Bench b) {
        b.leaves("/d 9 dict def d /a 1 put d /a cvx 2 put d (a) 3 put d /a get d /a cvx get d (a) get d length", "3 3 3 1");
        b.leaves("/d 9 dict def d 1 /n put d true /t put d false /f put d 0 /z put d 1 get d true get d false get d 0 get", "/n /t /f /z");
        b.leaves("/d 9 dict def d " + MIN + " 1 put d 2147483648 2 put d length d " + MIN + " get", "1 2");
        b.leaves("<< /x cvx 5 >> {} forall", "/x 5");
        b.leaves("<< (x) 5 >> {} forall", "/x 5");
        b.leaves("(1) /name def 1 /number def (1) load 1 load /1 load", "/name /number /name");
        b.leaves("() 5 def () load / load", "5 5");
        b.leaves("(a b) 5 def (a b) load", "5");
        b.leaves("(\0) 5 def (\0) load () where", "5 false");
        // The name is that of the bytes which the string has then.
        b.leaves("(ab) dup 5 def 0 98 put ab", "5");
    }

    /** "pairs of keys and values, in the order in which keys came" */
    private static void order(Bench b) {
        b.leaves("/a 1 def /b 2 def /c 3 def /a 4 def", "");
        b.due("a key again stays where it was", b.pairs(1), "4:83 1:4, 4:84 1:2, 4:85 1:3");
        b.endsHere("currentdict /a undef");
        b.due("the others move up", b.pairs(1), "4:84 1:2, 4:85 1:3");
        b.endsHere("/a 5 def");
        b.due("behind undef it comes last", b.pairs(1), "4:84 1:2, 4:85 1:3, 4:83 1:5");
        b.endsHere("currentdict /c undef");
        b.due("one in the middle", b.pairs(1), "4:84 1:2, 4:83 1:5");
        b.endsHere("currentdict /a undef");
        b.due("the last one", b.pairs(1), "4:84 1:2");
        b.endsHere("currentdict /b undef");
        b.due("the only one", b.pairs(1), "");
    }

    /** "9 if that has no room" */
    private static void rooms(Bench b) {
        b.fails("0 dict /a 1 put", 9, "put", "dict2 /a 1");
        b.fails("0 dict begin /a 1 def", 9, "def", "/a 1");
        b.fails("0 dict begin /a 1 store", 9, "store", "/a 1");
        b.fails("1 dict dup /a 1 put /b 2 put", 9, "put", "dict2 /b 2");
        b.leaves("1 dict dup /a 1 put dup /a 2 put /a get", "2");
        b.leaves("1 dict begin /a 1 def /a 2 def /a 3 store a", "3");
        b.leaves("1 dict begin /a 1 def currentdict /a undef /b 2 def b currentdict length", "2 1");
        b.leaves("20 dict begin 0 1 19 {dup def} for currentdict length", "20");
        b.fails("20 dict begin 0 1 20 {dup def} for", 9, "def", "20 20");
    }

    /** "begin: one comes on DICTIONARIES (11). end: the last one goes (10 when only the first two are there)." */
    private static void stack(Bench b) {
        b.fails("end", 10, "end", "");
        b.leaves("currentdict begin end countdictstack", "2");
        b.fails("currentdict begin end end", 10, "end", "");
        b.leaves("8 {currentdict begin} repeat countdictstack", "10");
        b.fails("9 {currentdict begin} repeat", 11, "begin", "dict1");
        b.leaves("8 {currentdict begin} repeat 8 {end} repeat countdictstack currentdict", "2 dict1");
        b.fails("8 {currentdict begin} repeat 9 {end} repeat", 10, "end", "");
        b.leaves("/add where pop begin currentdict countdictstack", "dict0 3");
        b.leaves("/x 1 def 1 dict begin /x 2 def x 1 dict begin x /x 3 def x end x end x", "2 2 3 2 1");
    }

    /** "load: a key's value, found as by execution (5)"; "where: a key: the dictionary that has it and true, or false" */
    private static void finding(Bench b) {
        b.fails("/x load", 5, "load", "/x");
        b.fails("5 load", 5, "load", "5");
        b.fails("true load", 5, "load", "true");
        b.leaves("/x {1 2} def /x load", "{1 2}");
        b.leaves("/x /y cvx def /x load", "y");
        b.leaves("5 6 def 5 load 5 where", "6 dict1 true");
        b.leaves("/x where 5 where true where", "false false false");
        b.leaves("/x 1 def 1 dict begin /x where /x 2 def /x where", "dict1 true dict2 true");
        b.leaves("currentdict /x known /x null def currentdict /x known 0 dict /x known", "false true false");
        b.fails("0 dict /x get", 5, "get", "dict2 /x");
        b.fails("currentdict true get", 5, "get", "dict1 true");
        b.leaves("/x null def currentdict /x get /x load", "null null");
    }

    /** "store: a key and a value, where it is found, else as def" */
    private static void storing(Bench b) {
        b.leaves("/x 1 def 1 dict begin /x 2 store currentdict length end x", "0 2");
        b.leaves("1 dict begin /x 2 store currentdict length end currentdict length", "1 0");
        b.leaves("/x 1 def 0 dict begin /x 2 store x", "2");
        b.leaves("/x 1 def 1 dict begin /x 2 def /x 3 store x end x", "3 1");
        b.leaves("1 1 def 1 dict begin 1 2 store end 1 load", "2");
        b.leaves("/x 1 def 1 dict begin (x) 2 store end x", "2");
    }

    /** "undef: a dictionary and a key, which goes (also where it is not)" */
    private static void undefining(Bench b) {
        b.leaves("0 dict /x undef", "");
        b.leaves("currentdict 5 undef currentdict true undef currentdict (q) undef", "");
        b.leaves("/x 1 def currentdict /x undef currentdict /x undef currentdict length", "0");
        b.leaves("/x 1 def currentdict /x cvx undef currentdict /x known", "false");
        b.leaves("/x 1 def currentdict (x) undef currentdict /x known", "false");
        b.leaves("1 1 def true 2 def currentdict true undef 1 load currentdict length", "1 1");
        b.fails("/x 1 def currentdict /x undef x", 5, "x", "");
    }

    /** "put, def, store and undef into SYSTEM, which has room for just its 74: 9, whatever the key, if it is one" */
    private static void system(Bench b) {
        for (String key : new String[] {"/add", "/new", "/add cvx", "5", "true", "(add)", "(new)", "/"}) {
            String kept = key.equals("/add cvx") ? "add" : key;
            b.fails("/pop where pop " + key + " 1 put", 9, "put", "dict0 " + kept + " 1");
            b.fails("/pop where pop " + key + " undef", 9, "undef", "dict0 " + kept);
            b.fails("/pop where pop begin " + key + " 1 def", 9, "def", kept + " 1");
            b.fails("/pop where pop begin " + key + " 1 store", 9, "store", kept + " 1");
            b.due("SYSTEM's pairs", b.machine.dictionary(0, -2, 0), 74);
        }
        b.fails("/add 1 store", 9, "store", "/add 1");
        b.leaves("/new 1 store new", "1");
        b.leaves("/add 1 def /add 2 store add", "2");
        b.leaves("/pop where pop dup length exch maxlength", "74 74");
        b.leaves("/pop where pop dup /pop known exch dup /print known exch dup /nulltype known exch 0 known", "true true false false");
        b.fails("/pop where pop /nulltype get", 5, "get", "dict0 /nulltype");
        b.fails("/pop where pop 0 get", 5, "get", "dict0 0");
        b.leaves("/pop where pop /print get /pop where pop (pop) get", "--print-- --pop--");
        b.leaves("0 /pop where pop {type /operatortype eq {pop 1 add} {pop} ifelse} forall", "74");
        b.leaves("/add {sub} def 5 3 add currentdict /add undef 5 3 add", "2 8");
    }
}
