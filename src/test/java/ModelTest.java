import java.util.ArrayList;
import java.util.Arrays;
import java.util.List;
import java.util.Random;

/** Runs random programs on the class and on a second, plain machine, and compares all they tell. */
public final class ModelTest {
    private static final int OBJECTS = 3000;
    private static final int RUNS = 12;

    public static void main(String[] args) {
        Bench b = new Bench("ModelTest");
        int objects = args.length > 0 ? Integer.parseInt(args[0]) : OBJECTS;
        long seed = args.length > 1 ? Long.parseLong(args[1]) : 1;
        int[] results = new int[5];
        int[] errors = new int[14];
        for (int i = 0; i < objects; i++) {
            Random random = new Random(seed * 1000003L + i);
            if (!compareOne(b, random, i, results, errors)) {
                break;
            }
        }
        for (int r = 0; r < results.length; r++) {
            b.due("runs with result " + r + " were met", results[r] > 0 ? 1 : 0, 1);
        }
        for (int e = 1; e < errors.length; e++) {
            b.due("runs with error " + e + " were met", errors[e] > 0 ? 1 : 0, 1);
        }
        if (args.length > 0) {
            System.out.println(Arrays.toString(results) + " " + Arrays.toString(errors));
        }
        b.end();
    }

    private static boolean compareOne(Bench b, Random random, int object, int[] results, int[] errors) {
        b.fresh();
        Model model = new Model();
        StringBuilder history = new StringBuilder();
        Programs programs = new Programs(random);
        for (int run = 0; run < RUNS; run++) {
            String text = programs.next();
            int steps = random.nextInt(4) == 0 ? random.nextInt(60) : random.nextInt(1001);
            if (random.nextInt(40) == 0) {
                b.machine.reset();
                model = new Model();
                history.append("\n  reset");
            }
            history.append("\n  ").append(steps).append(": ").append(text.replace("\n", "\\n"));
            int got = b.run(text, steps);
            int want = model.run(text, steps);
            results[want]++;
            errors[model.error]++;
            String gotAll = got + " " + tell(b.machine);
            String wantAll = want + " " + model.tell();
            if (!gotAll.equals(wantAll)) {
                tellDifference(b, "object " + object + " behind" + history + "\n  ", gotAll, wantAll);
                return false;
            }
        }
        b.due("object " + object, 0, 0);
        return true;
    }

    private static void tellDifference(Bench b, String where, String gotAll, String wantAll) {
        String[] got = gotAll.split("\n", -1);
        String[] want = wantAll.split("\n", -1);
        b.due(where + "lines told", got.length, want.length);
        for (int i = 0; i < Math.min(got.length, want.length); i++) {
            b.due(where + "line " + i, got[i], want[i]);
        }
    }

    private static String tell(Watched m) {
        StringBuilder s = new StringBuilder();
        for (int which = 0; which < 8; which++) {
            s.append(m.count(which)).append(' ');
        }
        s.append("error ").append(m.error(0)).append(' ').append(m.error(1)).append("\n operands");
        for (int i = m.count(0) - 1; i >= 0; i--) {
            s.append(' ').append(m.at(i, 0)).append(':').append(m.at(i, 1)).append(':').append(m.at(i, 2));
            s.append(':').append(m.at(i, 3));
        }
        s.append("\n values");
        for (int i = 0; i < m.count(5); i++) {
            s.append(' ').append(m.value(i, 0)).append(':').append(m.value(i, 1)).append(':').append(m.value(i, 2));
            s.append(':').append(m.value(i, 3));
        }
        s.append("\n octets");
        for (int i = 0; i < m.count(6); i++) {
            s.append(' ').append(m.octet(i));
        }
        s.append("\n out");
        for (int i = 0; i < m.count(2); i++) {
            s.append(' ').append(m.out(i));
        }
        s.append("\n dictionaries");
        for (int d = 0; d < m.count(7); d++) {
            s.append(" /").append(m.dictionary(d, -1, 0));
            for (int k = 0; k < m.dictionary(d, -2, 0); k++) {
                s.append(' ').append(m.dictionary(d, k, 0)).append(':').append(m.dictionary(d, k, 1));
                s.append('=').append(m.dictionary(d, k, 2)).append(':').append(m.dictionary(d, k, 3));
            }
        }
        s.append("\n names");
        for (int n = 83; n < m.count(4); n++) {
            s.append(" /");
            for (int i = 0; i < m.name(n, -1); i++) {
                s.append((char) m.name(n, i));
            }
        }
        return s.toString();
    }

    /** Makes texts of programs: snippets that do something, and tokens at random between them. */
    static final class Programs {
        private final Random random;

        Programs(Random random) {
            this.random = random;
        }

        private static final String[] SNIPPETS = {
            "N N add", "N N sub", "N N mul", "N N idiv", "N N mod", "N neg", "N abs", "V V eq", "V V ne", "N N lt",
            "N N le", "S S gt", "S S ge", "N N and", "B B or", "B B xor", "B not", "N not", "n array", "n string",
            "A length", "S length", "L length", "D length", "A n get", "S n get", "A n V put", "S dup n c put",
            "A n n getinterval", "S n n getinterval", "A dup n A putinterval", "S dup n S putinterval", "A aload pop",
            "V V V n array astore", "[ V V V ]", "<< K V K V >>", "<< K V K V K V >>", "n dict", "D begin", "end",
            "K V def", "K V store", "K V def", "L P def", "L P bind def", "L V def", "L l cvx def", "K load", "D K known",
            "K where", "D K undef", "D K V put", "D K get", "currentdict", "countdictstack", "D maxlength", "V exec",
            "P exec", "B P if", "B P P ifelse", "N N N P for", "n n n P for", "n P repeat", "P loop", "A P forall",
            "S P forall", "D P forall", "exit", "stop", "P stopped", "V stopped", "P stopped {} if", "quit", "P bind",
            "V cvx", "V cvlit", "V xcheck", "V type", "V =", "S print", "x", "x", "x", "l cvx exec", "V pop", "V V exch",
            "V dup", "n copy", "n index", "n n roll", "clear", "count", "mark", "cleartomark", "counttomark",
            "V", "V V", "P", "x x", "A dup 0 V put", "{ P } exec", "{ x x } stopped", "/f { x f } def f", "/f { f x } def f",
            "D { x } forall", "0 1 n { x } for", "/g { n { x } repeat } def g", "{ x exit } loop", "/a { a 0 } def a",
            "60 { V } repeat", "{ 61 { N } repeat } stopped", "/add where pop", "/add where { P forall } if",
            "A cvx exec", "{ { x } stopped } stopped", "n { P stopped } repeat", "P dup 0 V put exec",
            "{ 60 { N } repeat stop } stopped", "A dup n exch put", "T", "T T", "w", "/w { x w 0 pop } def w",
            "(bbbbbbbbbbbbbbbbbbbbbb) =", "100 string =", "n n n { 1 add x } for", "currentdict { pop pop } forall",
            "D dup { pop 1 index exch undef } forall", "D begin K V def currentdict end", "<< 29 { count N } repeat >>",
            "59 { null } repeat", "count 1 sub { pop } repeat", "150 array", "99 string", "D D D D D D D D",
            "8 { D begin } repeat", "{ currentdict begin } loop", "{ end } loop", "/e { n } def", "/a n def", "/b S def",
            "/c A def", "/d D def", "/g { P exec } def", "/h { P stopped } def", "{ N } loop", "A P forall x",
            "[ 1 2 3 ] { x } forall", "/e cvx stopped", "/add load exec", "{ x } cvlit exec", "{ { x } } exec exec",
        };
        private static final String[] OPERATORS = Model.NAMES.split(" ");

        String next() {
            StringBuilder all = new StringBuilder();
            int parts = 1 + random.nextInt(12);
            for (int i = 0; i < parts; i++) {
                String part = expand(SNIPPETS[random.nextInt(SNIPPETS.length)], 0);
                if (random.nextInt(3) == 0) {
                    part = "{ " + part + " } stopped " + (random.nextBoolean() ? "pop" : "");
                }
                String more = part + (random.nextInt(30) == 0 ? "%" + part + "\n" : " ");
                if (all.length() + more.length() <= 300) {
                    all.append(more);
                }
            }
            if (random.nextInt(12) == 0 && all.length() > 0) {
                all.setLength(1 + random.nextInt(all.length()));
            }
            if (random.nextInt(15) == 0 && all.length() > 0) {
                all.setCharAt(random.nextInt(all.length()), (char) random.nextInt(256));
            }
            return all.toString();
        }

        private String expand(String snippet, int depth) {
            StringBuilder all = new StringBuilder();
            for (String word : snippet.split(" ")) {
                if (all.length() > 0) {
                    all.append(' ');
                }
                all.append(word.length() == 1 ? expandWord(word.charAt(0), depth) : word);
            }
            return all.toString();
        }

        private String expandWord(char word, int depth) {
            switch (word) {
                case 'N': return number();
                case 'n': return Integer.toString(random.nextInt(8) == 0 ? random.nextInt(12) - 2 : random.nextInt(4));
                case 'c': return Integer.toString(random.nextInt(5) == 0 ? random.nextInt(300) - 20 : random.nextInt(256));
                case 'B': return random.nextInt(10) == 0 ? any(depth) : random.nextBoolean() ? "true" : "false";
                case 'S': return random.nextInt(15) == 0 ? any(depth) : string();
                case 'A': return array(depth);
                case 'P': return random.nextInt(15) == 0 ? any(depth) : procedure(depth);
                case 'D': return dictionary();
                case 'K': return key(depth);
                case 'L': return "/" + name();
                case 'l': return "/" + name();
                case 'x': return random.nextInt(3) == 0 ? operator() : name();
                case 'T': return operator();
                case 'w': return "{ w } stopped";
                case 'V': return any(depth);
                default: return String.valueOf(word);
            }
        }

        private String number() {
            switch (random.nextInt(8)) {
                case 0: return "2147483647";
                case 1: return "-2147483648";
                case 2: return "16#" + Integer.toHexString(random.nextInt());
                case 3: return random.nextInt(8) == 0 ? "true" : "0";
                default: return Integer.toString(random.nextInt(20) - 6);
            }
        }

        private String name() {
            String[] names = {"a", "b", "c", "d", "e", "f", "g", "w", "h", "abcdefghijklmnop", ""};
            return random.nextInt(25) == 0 ? "n" + random.nextInt(200) : names[random.nextInt(names.length)];
        }

        private String operator() {
            return OPERATORS[random.nextInt(74)];
        }

        private String string() {
            String[] strings = {"()", "(a)", "(b)", "(ab)", "(abc)", "(a\\)(x)b)", "(\377\200)", "(add)", "(abcdefghijklmnopq)", "([)"};
            return strings[random.nextInt(strings.length)];
        }

        private String array(int depth) {
            switch (random.nextInt(6)) {
                case 0: return procedure(depth);
                case 1: return "3 array";
                case 2: return "[ ]";
                case 3: return random.nextInt(5) == 0 ? any(depth) : "[ 1 ]";
                default: return "[ " + any(depth + 1) + " " + any(depth + 1) + " ]";
            }
        }

        private String procedure(int depth) {
            if (depth > 2 || random.nextInt(5) == 0) {
                return random.nextBoolean() ? "{ }" : "{ " + expandWord('x', 9) + " }";
            }
            StringBuilder all = new StringBuilder("{ ");
            int parts = 1 + random.nextInt(3);
            for (int i = 0; i < parts; i++) {
                all.append(expand(SNIPPETS[random.nextInt(SNIPPETS.length)], depth + 1)).append(' ');
            }
            return all.append("}").toString();
        }

        private String dictionary() {
            String[] dictionaries = {"currentdict", "1 dict", "3 dict", "0 dict", "<< /a 1 /b 2 >>", "/add where pop", "currentdict", "5"};
            return dictionaries[random.nextInt(dictionaries.length)];
        }

        private String key(int depth) {
            switch (random.nextInt(8)) {
                case 0: return Integer.toString(random.nextInt(3));
                case 1: return "true";
                case 2: return string();
                case 3: return random.nextInt(4) == 0 ? any(depth) : "/add";
                default: return "/" + name();
            }
        }

        private String any(int depth) {
            switch (random.nextInt(depth > 2 ? 9 : 11)) {
                case 0: return "null";
                case 1: return "mark";
                case 2: return random.nextBoolean() ? "true" : "false";
                case 3: return "/" + name();
                case 4: return string();
                case 5: return dictionary();
                case 6: return "/add load";
                case 7: return "/" + name() + " cvx";
                case 8: return number();
                case 9: return procedure(depth + 1);
                default: return array(depth + 1);
            }
        }
    }

    /** An error that an operator or token makes. */
    static final class Trouble extends RuntimeException {
        private static final long serialVersionUID = 1L;
        final int number;

        Trouble(int number) {
            super(null, null, false, false);
            this.number = number;
        }
    }

    /** What ends parts of a run: an error or stop that goes up to a stopped, an exit, or the run's end. */
    static final class Leaving extends RuntimeException {
        private static final long serialVersionUID = 1L;
        final int how;

        Leaving(int how) {
            super(null, null, false, false);
            this.how = how;
        }
    }

    static final class Pair {
        final Val key;
        Val val;

        Pair(Val key, Val val) {
            this.key = key;
            this.val = val;
        }
    }

    static final class Dict {
        final int number;
        final int room;
        final List<Pair> pairs = new ArrayList<>();

        Dict(int number, int room) {
            this.number = number;
            this.room = room;
        }

        Pair find(Val key) {
            for (Pair p : pairs) {
                if (p.key.kind == key.kind && p.key.n == key.n) {
                    return p;
                }
            }
            return null;
        }
    }

    static final class Val {
        final int kind;
        final int n;
        final int length;
        final boolean exec;

        Val(int kind, int n, int length, boolean exec) {
            this.kind = kind;
            this.n = n;
            this.length = length;
            this.exec = exec;
        }

        Val as(boolean executable) {
            return new Val(kind, n, length, executable);
        }

        String tell() {
            return " " + kind + ":" + n + ":" + (exec ? 1 : 0) + ":" + length;
        }
    }

    /** The second machine: it runs procedures and loops by recursion, and errors by exceptions. */
    static final class Model {
        static final String NAMES =
            "pop exch dup copy index roll clear count mark [ << cleartomark counttomark add sub mul idiv mod neg abs "
            + "eq ne lt le gt ge and or xor not true false null array string length get put getinterval putinterval "
            + "aload astore ] >> dict begin end def load store known where undef currentdict countdictstack maxlength "
            + "exec if ifelse for repeat loop forall exit stop stopped quit bind cvx cvlit xcheck type = print "
            + "nulltype integertype booleantype marktype nametype arraytype stringtype dicttype operatortype";
        private static final int USED_UP = 1;
        private static final int FAILED = 2;
        private static final int STOP = 3;
        private static final int QUIT = 4;
        private static final int EXIT = 5;

        private final List<Val> stack = new ArrayList<>();
        private final List<Val> values = new ArrayList<>();
        private final List<Integer> octets = new ArrayList<>();
        private final StringBuilder out = new StringBuilder();
        private final List<String> names = new ArrayList<>(Arrays.asList(NAMES.split(" ")));
        private final List<Dict> dicts = new ArrayList<>();
        private final List<Dict> open = new ArrayList<>();
        private final List<String> execution = new ArrayList<>();
        int error = 0;
        int noted = -1;
        private int used = 0;
        private int allowed = 0;
        private String tape = "";
        private int pos = 0;

        Model() {
            Dict system = new Dict(0, 74);
            for (int i = 0; i < 74; i++) {
                system.pairs.add(new Pair(name(i, false), new Val(8, i, 0, true)));
            }
            dicts.add(system);
            dicts.add(new Dict(1, 20));
            open.addAll(dicts);
        }

        private static Val number(int n) {
            return new Val(1, n, 0, false);
        }

        private static Val truth(boolean t) {
            return new Val(2, t ? 1 : 0, 0, false);
        }

        private static Val name(int n, boolean exec) {
            return new Val(4, n, 0, exec);
        }

        String tell() {
            StringBuilder s = new StringBuilder();
            int[] counts = {stack.size(), open.size(), out.length(), used, names.size(), values.size(), octets.size(), dicts.size()};
            for (int c : counts) {
                s.append(c).append(' ');
            }
            s.append("error ").append(error).append(' ').append(noted).append("\n operands");
            for (Val v : stack) {
                s.append(v.tell());
            }
            s.append("\n values");
            for (Val v : values) {
                s.append(v.tell());
            }
            s.append("\n octets");
            for (int o : octets) {
                s.append(' ').append(o);
            }
            s.append("\n out");
            for (int i = 0; i < out.length(); i++) {
                s.append(' ').append((int) out.charAt(i));
            }
            s.append("\n dictionaries");
            for (Dict d : dicts) {
                s.append(" /").append(d.room);
                for (Pair p : d.pairs) {
                    s.append(' ').append(p.key.kind).append(':').append(p.key.n);
                    s.append('=').append(p.val.kind).append(':').append(p.val.n);
                }
            }
            s.append("\n names");
            for (String n : names.subList(83, names.size())) {
                s.append(" /").append(n);
            }
            return s.toString();
        }

        // ---- tokens

        private int peek() {
            return pos < tape.length() ? tape.charAt(pos) : -1;
        }

        private void skip() {
            while (pos < tape.length()) {
                int c = peek();
                if (c == '%') {
                    while (pos < tape.length() && peek() != 10) {
                        pos++;
                    }
                } else if (c <= 32) {
                    pos++;
                } else {
                    return;
                }
            }
        }

        private static boolean regular(int c) {
            return c > 32 && c < 127 && "%{}[]<>()/".indexOf(c) < 0;
        }

        private int meet(String text) {
            if (text.length() > 16) {
                throw new Trouble(2);
            }
            int n = names.indexOf(text);
            if (n >= 0) {
                return n;
            }
            if (names.size() >= 160) {
                throw new Trouble(2);
            }
            names.add(text);
            return names.size() - 1;
        }

        private Val token(int depth) {
            int c = peek();
            pos++;
            if (c == '{') {
                return procedure(depth + 1);
            }
            if (c == '(') {
                return string();
            }
            if (c == '[' || c == ']') {
                return name(names.indexOf(String.valueOf((char) c)), true);
            }
            if ((c == '<' || c == '>') && peek() == c) {
                pos++;
                return name(names.indexOf(c == '<' ? "<<" : ">>"), true);
            }
            if (c == '/') {
                return name(meet(row()), false);
            }
            if (!regular(c)) {
                throw new Trouble(1);
            }
            pos--;
            String text = row();
            if (text.matches("[+-]?[0-9]+")) {
                return number(new java.math.BigInteger(text.replace("+", "")).intValue());
            }
            if (text.matches("[0-9][0-9]?#[0-9a-zA-Z]+")) {
                int hash = text.indexOf('#');
                int base = Integer.parseInt(text.substring(0, hash));
                if (base >= 2 && base <= 36) {
                    try {
                        return number(new java.math.BigInteger(text.substring(hash + 1), base).intValue());
                    } catch (NumberFormatException e) {
                        return name(meet(text), true);
                    }
                }
            }
            return name(meet(text), true);
        }

        private String row() {
            int start = pos;
            while (regular(peek())) {
                pos++;
            }
            return tape.substring(start, pos);
        }

        private Val string() {
            List<Integer> bytes = new ArrayList<>();
            int nested = 0;
            while (true) {
                int c = peek();
                pos++;
                if (c < 0) {
                    throw new Trouble(1);
                }
                if (c == ')' && nested == 0) {
                    return newString(bytes);
                }
                if (c == '(') {
                    nested++;
                }
                if (c == ')') {
                    nested--;
                }
                if (c == '\\') {
                    c = peek();
                    pos++;
                    if (c < 0) {
                        throw new Trouble(1);
                    }
                }
                bytes.add(c);
            }
        }

        private Val procedure(int depth) {
            if (depth > 8) {
                throw new Trouble(2);
            }
            List<Val> all = new ArrayList<>();
            while (true) {
                skip();
                if (peek() < 0) {
                    throw new Trouble(1);
                }
                if (peek() == '}') {
                    pos++;
                    return newArray(all).as(true);
                }
                all.add(token(depth));
            }
        }

        private Val newArray(List<Val> all) {
            if (values.size() + all.size() > 600) {
                throw new Trouble(2);
            }
            int place = values.size();
            values.addAll(all);
            return new Val(5, place, all.size(), false);
        }

        private Val newString(List<Integer> bytes) {
            if (octets.size() + bytes.size() > 600) {
                throw new Trouble(2);
            }
            int place = octets.size();
            octets.addAll(bytes);
            return new Val(6, place, bytes.size(), false);
        }

        // ---- running

        int run(String text, int steps) {
            tape = text;
            pos = 0;
            used = 0;
            allowed = steps;
            execution.clear();
            execution.add("program");
            try {
                while (true) {
                    skip();
                    if (peek() < 0) {
                        return 0;
                    }
                    step();
                    Val token = null;
                    try {
                        token = token(0);
                    } catch (Trouble t) {
                        note(t.number, -1);
                    }
                    execute(token, true, -1);
                }
            } catch (Leaving l) {
                return l.how;
            }
        }

        private void step() {
            if (used == allowed) {
                throw new Leaving(USED_UP);
            }
            used++;
        }

        private void note(int number, int with) {
            error = number;
            noted = with;
            throw new Leaving(FAILED);
        }

        private void execute(Val v, boolean direct, int from) {
            if (v.kind == 8) {
                Val next = null;
                int before = stack.size();
                List<Val> saved = new ArrayList<>(stack);
                try {
                    next = operator(v.n);
                } catch (Trouble t) {
                    if (before != stack.size() || !saved.equals(stack)) {
                        throw new IllegalStateException("the model changed operands of what failed: " + names.get(v.n));
                    }
                    note(t.number, v.n);
                }
                if (next != null) {
                    execute(next, false, v.n);
                }
            } else if (v.kind == 4 && v.exec) {
                Pair p = look(v);
                if (p == null) {
                    note(5, v.n);
                    return;
                }
                if (p.val.kind == 4 && p.val.exec) {
                    step();
                }
                execute(p.val, false, v.n);
            } else if (v.kind == 5 && v.exec && !direct) {
                if (execution.size() == 24) {
                    note(2, from);
                }
                procedureBody(v);
            } else if (stack.size() == 60) {
                note(13, from);
            } else {
                stack.add(v);
            }
        }

        private void procedureBody(Val body) {
            execution.add("procedure");
            if (body.length == 0) {
                execution.remove(execution.size() - 1);
            }
            for (int i = 0; i < body.length; i++) {
                step();
                Val v = values.get(body.n + i);
                if (i == body.length - 1) {
                    execution.remove(execution.size() - 1);
                }
                execute(v, true, -1);
            }
        }

        private Pair look(Val key) {
            for (int i = open.size() - 1; i >= 0; i--) {
                Pair p = open.get(i).find(key);
                if (p != null) {
                    return p;
                }
            }
            return null;
        }

        private Dict holder(Val key) {
            for (int i = open.size() - 1; i >= 0; i--) {
                if (open.get(i).find(key) != null) {
                    return open.get(i);
                }
            }
            return null;
        }

        private void cutExecution(int size) {
            while (execution.size() > size) {
                execution.remove(execution.size() - 1);
            }
        }

        // ---- operators; what they take is looked at before it goes

        private void need(int n) {
            if (stack.size() < n) {
                throw new Trouble(3);
            }
        }

        private Val top(int i) {
            return stack.get(stack.size() - 1 - i);
        }

        private void want(boolean kindIsRight) {
            if (!kindIsRight) {
                throw new Trouble(4);
            }
        }

        private boolean is(int i, int... kinds) {
            for (int kind : kinds) {
                if (top(i).kind == kind) {
                    return true;
                }
            }
            return false;
        }

        private boolean isBody(int i) {
            return is(i, 5) && top(i).exec;
        }

        private boolean isKey(int i) {
            return is(i, 1, 2, 4, 6);
        }

        private static void range(boolean inRange) {
            if (!inRange) {
                throw new Trouble(6);
            }
        }

        private void room(int more) {
            if (stack.size() + more > 60) {
                throw new Trouble(13);
            }
        }

        private void take(int n) {
            for (int i = 0; i < n; i++) {
                stack.remove(stack.size() - 1);
            }
        }

        private void answer(int taken, Val v) {
            room(1 - taken);
            take(taken);
            stack.add(v);
        }

        private void places(int n) {
            if (execution.size() + n > 24) {
                throw new Trouble(2);
            }
        }

        private Val operator(int op) {
            String name = names.get(op);
            switch (name) {
                case "exec": return exec();
                case "stopped": stopped(); return null;
                case "stop": throw new Leaving(STOP);
                case "quit": throw new Leaving(QUIT);
                case "exit": exit(); return null;
                case "if": branch(); return null;
                case "ifelse": branchElse(); return null;
                case "for": case "repeat": case "loop": case "forall": loops(name); return null;
                default:
                    if (!plain(name) && !rows(name) && !pairs(name)) {
                        throw new IllegalStateException("the model has no " + name);
                    }
                    return null;
            }
        }

        private Val exec() {
            need(1);
            Val v = top(0);
            if (v.kind == 5 && v.exec) {
                places(1);
            }
            take(1);
            return v;
        }

        private void stopped() {
            need(1);
            places(2);
            Val v = top(0);
            take(1);
            int size = execution.size();
            execution.add("stopped");
            try {
                execute(v, false, 65);
                cutExecution(size);
            } catch (Leaving l) {
                if (l.how != FAILED && l.how != STOP) {
                    throw l;
                }
                cutExecution(size);
                if (stack.size() == 60) {
                    error = 13;
                    noted = 65;
                    throw l;
                }
                stack.add(truth(true));
                return;
            }
            if (stack.size() == 60) {
                note(13, 65);
            }
            stack.add(truth(false));
        }

        private void exit() {
            for (int i = execution.size() - 1; i >= 0; i--) {
                if (execution.get(i).equals("stopped")) {
                    throw new Trouble(12);
                }
                if (execution.get(i).equals("loop")) {
                    throw new Leaving(EXIT);
                }
            }
            throw new Trouble(12);
        }

        private void branch() {
            need(2);
            want(is(1, 2) && isBody(0));
            places(1);
            boolean yes = top(1).n == 1;
            Val body = top(0);
            take(2);
            if (yes) {
                procedureBody(body);
            }
        }

        private void branchElse() {
            need(3);
            want(is(2, 2) && isBody(1) && isBody(0));
            places(1);
            Val body = top(2).n == 1 ? top(1) : top(0);
            take(3);
            procedureBody(body);
        }

        private void loops(String name) {
            int taken = name.equals("for") ? 4 : name.equals("loop") ? 1 : 2;
            need(taken);
            want(isBody(0));
            if (name.equals("for")) {
                want(is(1, 1) && is(2, 1) && is(3, 1));
                range(top(2).n != 0);
            } else if (name.equals("repeat")) {
                want(is(1, 1));
                range(top(1).n >= 0);
            } else if (name.equals("forall")) {
                want(is(1, 5, 6, 7));
            }
            places(2);
            List<Val> all = new ArrayList<>(stack.subList(stack.size() - taken, stack.size()));
            take(taken);
            int size = execution.size();
            execution.add("loop");
            try {
                Val body = all.get(taken - 1);
                if (name.equals("for")) {
                    forRounds(all.get(0).n, all.get(1).n, all.get(2).n, body);
                } else if (name.equals("repeat")) {
                    for (int i = 0; i < all.get(0).n; i++) {
                        round(60, body);
                    }
                } else if (name.equals("loop")) {
                    while (true) {
                        round(61, body);
                    }
                } else {
                    forallRounds(all.get(0), body);
                }
            } catch (Leaving l) {
                if (l.how != EXIT) {
                    throw l;
                }
            }
            cutExecution(size);
        }

        private void round(int op, Val body, Val... put) {
            step();
            if (stack.size() + put.length > 60) {
                note(13, op);
            }
            stack.addAll(Arrays.asList(put));
            procedureBody(body);
        }

        private void forRounds(long i, long j, long limit, Val body) {
            for (long n = i; j > 0 ? n <= limit : n >= limit; n += j) {
                round(59, body, number((int) n));
            }
        }

        private void forallRounds(Val subject, Val body) {
            if (subject.kind != 7) {
                for (int i = 0; i < subject.length; i++) {
                    int place = subject.n + i;
                    // The value is read before the step is counted: nothing can come between the two.
                    round(62, body, subject.kind == 5 ? values.get(place) : number(octets.get(place)));
                }
                return;
            }
            Dict d = dicts.get(subject.n);
            List<Val> keys = new ArrayList<>();
            for (Pair p : d.pairs) {
                keys.add(p.key);
            }
            for (Val key : keys) {
                Pair p = d.find(key);
                if (p != null) {
                    round(62, body, key, p.val);
                }
            }
        }

        private int mark() {
            for (int i = 0; i < stack.size(); i++) {
                if (top(i).kind == 3) {
                    return i;
                }
            }
            throw new Trouble(8);
        }

        private boolean plain(String name) {
            switch (name) {
                case "pop": need(1); take(1); return true;
                case "exch": need(2); stack.add(stack.remove(stack.size() - 2)); return true;
                case "dup": need(1); answer(0, top(0)); return true;
                case "copy": copy(); return true;
                case "index": index(); return true;
                case "roll": roll(); return true;
                case "clear": stack.clear(); return true;
                case "count": answer(0, number(stack.size())); return true;
                case "mark": case "[": case "<<": answer(0, new Val(3, 0, 0, false)); return true;
                case "cleartomark": take(mark() + 1); return true;
                case "counttomark": answer(0, number(mark())); return true;
                case "add": case "sub": case "mul": case "idiv": case "mod": arithmetic(name); return true;
                case "neg": need(1); want(is(0, 1)); answer(1, number(-top(0).n)); return true;
                case "abs": need(1); want(is(0, 1)); answer(1, number(Math.abs(top(0).n))); return true;
                case "eq": need(2); answer(2, truth(equal(top(1), top(0)))); return true;
                case "ne": need(2); answer(2, truth(!equal(top(1), top(0)))); return true;
                case "lt": case "le": case "gt": case "ge": compare(name); return true;
                case "and": case "or": case "xor": logic(name); return true;
                case "not": not(); return true;
                case "true": answer(0, truth(true)); return true;
                case "false": answer(0, truth(false)); return true;
                case "null": answer(0, new Val(0, 0, 0, false)); return true;
                case "cvx": case "cvlit": need(1); answer(1, is(0, 4, 5) ? top(0).as(name.equals("cvx")) : top(0)); return true;
                case "xcheck": need(1); answer(1, truth(top(0).exec)); return true;
                case "type": need(1); answer(1, name(74 + top(0).kind, false)); return true;
                case "=": need(1); write(text(top(0)) + "\n"); take(1); return true;
                case "print": need(1); want(is(0, 6)); write(text(top(0))); take(1); return true;
                default: return false;
            }
        }

        private void copy() {
            need(1);
            want(is(0, 1));
            int n = top(0).n;
            range(n >= 0);
            need(n < 100 ? n + 1 : 100);
            room(n - 1);
            take(1);
            stack.addAll(new ArrayList<>(stack.subList(stack.size() - n, stack.size())));
        }

        private void index() {
            need(1);
            want(is(0, 1));
            int n = top(0).n;
            range(n >= 0);
            need(n < 100 ? n + 2 : 100);
            answer(1, top(n + 1));
        }

        private void roll() {
            need(2);
            want(is(0, 1) && is(1, 1));
            int n = top(1).n;
            long j = top(0).n;
            range(n >= 0);
            need(n < 100 ? n + 2 : 100);
            take(2);
            if (n > 0) {
                java.util.Collections.rotate(stack.subList(stack.size() - n, stack.size()), (int) (j % n));
            }
        }

        private void arithmetic(String name) {
            need(2);
            want(is(0, 1) && is(1, 1));
            long a = top(1).n;
            long b = top(0).n;
            if (b == 0 && (name.equals("idiv") || name.equals("mod"))) {
                throw new Trouble(7);
            }
            long r = name.equals("add") ? a + b : name.equals("sub") ? a - b : name.equals("mul") ? a * b
                : name.equals("idiv") ? a / b : a % b;
            answer(2, number((int) r));
        }

        private String text(Val v) {
            switch (v.kind) {
                case 1: return Integer.toString(v.n);
                case 2: return v.n == 1 ? "true" : "false";
                case 4: case 8: return names.get(v.n);
                case 6:
                    StringBuilder s = new StringBuilder();
                    for (int i = 0; i < v.length; i++) {
                        s.append((char) (int) octets.get(v.n + i));
                    }
                    return s.toString();
                default: return "--nostringval--";
            }
        }

        private void write(String s) {
            if (out.length() + s.length() > 1000) {
                throw new Trouble(2);
            }
            out.append(s);
        }

        private boolean equal(Val a, Val b) {
            boolean textA = a.kind == 4 || a.kind == 6;
            boolean textB = b.kind == 4 || b.kind == 6;
            if (textA && textB) {
                return text(a).equals(text(b));
            }
            return a.kind == b.kind && a.n == b.n && a.length == b.length;
        }

        private void compare(String name) {
            need(2);
            want(is(0, 1) && is(1, 1) || is(0, 6) && is(1, 6));
            int c = is(0, 1) ? Integer.compare(top(1).n, top(0).n) : text(top(1)).compareTo(text(top(0)));
            answer(2, truth(name.equals("lt") ? c < 0 : name.equals("le") ? c <= 0 : name.equals("gt") ? c > 0 : c >= 0));
        }

        private void logic(String name) {
            need(2);
            want(is(0, 1) && is(1, 1) || is(0, 2) && is(1, 2));
            int a = top(1).n;
            int b = top(0).n;
            int r = name.equals("and") ? a & b : name.equals("or") ? a | b : a ^ b;
            answer(2, new Val(top(0).kind, r, 0, false));
        }

        private void not() {
            need(1);
            want(is(0, 1, 2));
            answer(1, is(0, 1) ? number(~top(0).n) : truth(top(0).n == 0));
        }

        private boolean rows(String name) {
            switch (name) {
                case "array": case "string": make(name.equals("array")); return true;
                case "length": length(); return true;
                case "get": need(2); want(is(1, 5, 6, 7)); get(); return true;
                case "put": need(3); want(is(2, 5, 6, 7)); put(); return true;
                case "getinterval": getInterval(); return true;
                case "putinterval": putInterval(); return true;
                case "aload": aload(); return true;
                case "astore": astore(); return true;
                case "]": closeArray(); return true;
                case "bind": need(1); want(isBody(0)); bind(top(0), new ArrayList<>()); return true;
                default: return false;
            }
        }

        private void make(boolean array) {
            need(1);
            want(is(0, 1));
            int n = top(0).n;
            range(n >= 0 && n <= 200);
            List<Val> nulls = new ArrayList<>();
            List<Integer> zeros = new ArrayList<>();
            for (int i = 0; i < n; i++) {
                nulls.add(new Val(0, 0, 0, false));
                zeros.add(0);
            }
            answer(1, array ? newArray(nulls) : newString(zeros));
        }

        private void length() {
            need(1);
            want(is(0, 4, 5, 6, 7));
            Val v = top(0);
            int n = v.kind == 4 ? names.get(v.n).length() : v.kind == 7 ? dicts.get(v.n).pairs.size() : v.length;
            answer(1, number(n));
        }

        private void get() {
            Val of = top(1);
            if (of.kind == 7) {
                want(isKey(0));
                Pair p = dicts.get(of.n).find(key(top(0)));
                if (p == null) {
                    throw new Trouble(5);
                }
                answer(2, p.val);
                return;
            }
            want(is(0, 1));
            int i = top(0).n;
            range(i >= 0 && i < of.length);
            answer(2, of.kind == 5 ? values.get(of.n + i) : number(octets.get(of.n + i)));
        }

        private void put() {
            Val into = top(2);
            if (into.kind == 7) {
                want(isKey(1));
                putPair(dicts.get(into.n), key(top(1)), top(0));
                take(3);
                return;
            }
            want(is(1, 1) && (into.kind == 5 || is(0, 1)));
            int i = top(1).n;
            range(i >= 0 && i < into.length);
            if (into.kind == 5) {
                values.set(into.n + i, top(0));
            } else {
                range(top(0).n >= 0 && top(0).n <= 255);
                octets.set(into.n + i, top(0).n);
            }
            take(3);
        }

        private void getInterval() {
            need(3);
            want(is(2, 5, 6) && is(1, 1) && is(0, 1));
            Val of = top(2);
            long i = top(1).n;
            long n = top(0).n;
            range(i >= 0 && n >= 0 && i + n <= of.length);
            answer(3, new Val(of.kind, of.n + (int) i, (int) n, of.exec));
        }

        private void putInterval() {
            need(3);
            want(is(2, 5, 6) && is(1, 1) && is(0, 5, 6) && top(0).kind == top(2).kind);
            Val into = top(2);
            long i = top(1).n;
            Val from = top(0);
            range(i >= 0 && i + from.length <= into.length);
            List<Val> vals = into.kind == 5 ? new ArrayList<>(values.subList(from.n, from.n + from.length)) : null;
            List<Integer> bytes = into.kind == 6 ? new ArrayList<>(octets.subList(from.n, from.n + from.length)) : null;
            for (int k = 0; k < from.length; k++) {
                if (vals != null) {
                    values.set(into.n + (int) i + k, vals.get(k));
                } else {
                    octets.set(into.n + (int) i + k, bytes.get(k));
                }
            }
            take(3);
        }

        private void aload() {
            need(1);
            want(is(0, 5));
            Val a = top(0);
            room(a.length);
            take(1);
            stack.addAll(values.subList(a.n, a.n + a.length));
            stack.add(a);
        }

        private void astore() {
            need(1);
            want(is(0, 5));
            Val a = top(0);
            need(a.length + 1);
            take(1);
            for (int i = a.length - 1; i >= 0; i--) {
                values.set(a.n + i, stack.remove(stack.size() - 1));
            }
            stack.add(a);
        }

        private void closeArray() {
            int n = mark();
            Val a = newArray(new ArrayList<>(stack.subList(stack.size() - n, stack.size())));
            answer(n + 1, a);
        }

        private void bind(Val array, List<Val> seen) {
            for (Val s : seen) {
                if (s.n == array.n && s.length == array.length) {
                    return;
                }
            }
            seen.add(array);
            for (int i = array.n; i < array.n + array.length; i++) {
                Val v = values.get(i);
                if (v.exec && v.kind == 4) {
                    Pair p = look(v);
                    if (p != null && p.val.kind == 8) {
                        values.set(i, p.val);
                    }
                } else if (v.exec && v.kind == 5) {
                    bind(v, seen);
                }
            }
        }

        private Val key(Val v) {
            return v.kind == 6 ? name(meet(text(v)), false) : v.kind == 4 ? v.as(false) : v;
        }

        private void putPair(Dict d, Val key, Val v) {
            Pair p = d.find(key);
            if (d.number == 0 || p == null && d.pairs.size() == d.room) {
                throw new Trouble(9);
            }
            if (p != null) {
                p.val = v;
            } else {
                d.pairs.add(new Pair(key, v));
            }
        }

        private Val newDict(int room) {
            if (dicts.size() == 20) {
                throw new Trouble(2);
            }
            dicts.add(new Dict(dicts.size(), room));
            return new Val(7, dicts.size() - 1, 0, false);
        }

        private boolean pairs(String name) {
            Dict last = open.get(open.size() - 1);
            switch (name) {
                case ">>": closePairs(); return true;
                case "dict": need(1); want(is(0, 1)); range(top(0).n >= 0 && top(0).n <= 20); answer(1, newDict(top(0).n)); return true;
                case "begin": begin(); return true;
                case "end": end(); return true;
                case "def": need(2); want(isKey(1)); putPair(last, key(top(1)), top(0)); take(2); return true;
                case "store": store(last); return true;
                case "load": load(); return true;
                case "known": need(2); want(is(1, 7) && isKey(0)); answer(2, truth(dicts.get(top(1).n).find(key(top(0))) != null)); return true;
                case "where": where(); return true;
                case "undef": undef(); return true;
                case "currentdict": answer(0, new Val(7, last.number, 0, false)); return true;
                case "countdictstack": answer(0, number(open.size())); return true;
                case "maxlength": need(1); want(is(0, 7)); answer(1, number(dicts.get(top(0).n).room)); return true;
                default: return false;
            }
        }

        private void closePairs() {
            int n = mark();
            range(n % 2 == 0);
            List<Val> all = new ArrayList<>(stack.subList(stack.size() - n, stack.size()));
            for (int i = 0; i < n; i += 2) {
                want(isKey(n - 1 - i));
            }
            for (int i = 0; i < n; i += 2) {
                all.set(i, key(all.get(i)));
            }
            Val made = newDict(n / 2);
            for (int i = 0; i < n; i += 2) {
                putPair(dicts.get(made.n), all.get(i), all.get(i + 1));
            }
            answer(n + 1, made);
        }

        private void begin() {
            need(1);
            want(is(0, 7));
            if (open.size() == 10) {
                throw new Trouble(11);
            }
            open.add(dicts.get(top(0).n));
            take(1);
        }

        private void end() {
            if (open.size() == 2) {
                throw new Trouble(10);
            }
            open.remove(open.size() - 1);
        }

        private void store(Dict last) {
            need(2);
            want(isKey(1));
            Val key = key(top(1));
            Dict d = holder(key);
            putPair(d == null ? last : d, key, top(0));
            take(2);
        }

        private void load() {
            need(1);
            want(isKey(0));
            Pair p = look(key(top(0)));
            if (p == null) {
                throw new Trouble(5);
            }
            answer(1, p.val);
        }

        private void where() {
            need(1);
            want(isKey(0));
            Dict d = holder(key(top(0)));
            if (d == null) {
                answer(1, truth(false));
                return;
            }
            room(1);
            take(1);
            stack.add(new Val(7, d.number, 0, false));
            stack.add(truth(true));
        }

        private void undef() {
            need(2);
            want(is(1, 7) && isKey(0));
            Val key = key(top(0));
            Dict d = dicts.get(top(1).n);
            if (d.number == 0) {
                throw new Trouble(9);
            }
            Pair p = d.find(key);
            if (p != null) {
                d.pairs.remove(p);
            }
            take(2);
        }
    }
}
