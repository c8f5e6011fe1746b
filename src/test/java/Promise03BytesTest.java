import java.math.BigInteger;

/** Promise 3: what each byte is for the tokens, and the edges of numbers, names, strings and procedures. */
public final class Promise03BytesTest {
    private static final String SPECIAL = "%{}[]<>()/";

    public static void main(String[] args) {
        Bench b = new Bench("Promise03BytesTest");
        for (int c = 0; c < 256; c++) {
            between(b, (char) c);
            inName(b, (char) c);
            inComment(b, (char) c);
            inString(b, (char) c);
            alone(b, (char) c);
            amongDigits(b, (char) c);
        }
        comments(b);
        strings(b);
        numbers(b);
        bases(b);
        names(b);
        procedures(b);
        b.end();
    }

    private static boolean isRegular(char c) {
        return c > 32 && c <= 126 && SPECIAL.indexOf(c) < 0;
    }

    /** "bytes up to 32 part them"; regular bytes do not; "each byte above 126 is a token that is none". */
    private static void between(Bench b, char c) {
        String text = "1" + c + "2";
        if (c <= 32) {
            b.leaves(text, "1 2");
        } else if (c >= '0' && c <= '9') {
            b.leaves(text, text);
        } else if (isRegular(c)) {
            b.fails(text, 5, text, "");
        } else if (c == '%') {
            b.leaves(text, "1");
        } else if (c == '/') {
            b.leaves(text, "1 /2");
        } else if (c == '[') {
            b.leaves(text, "1 mark 2");
        } else if (c == ']') {
            b.fails(text, 8, "]", "1");
        } else {
            b.fails(text, 1, "-", "1");
        }
    }

    /** "all bytes are regular but those up to 32, above 126, and % { } [ ] < > ( ) /" */
    private static void inName(Bench b, char c) {
        b.fresh();
        b.run("/a" + c + "b");
        boolean regular = isRegular(c);
        b.due("the first name's length with byte " + (int) c, b.machine.name(83, -1), regular ? 3 : 1);
        b.due("its second byte", regular ? b.machine.name(83, 1) : c, c);
    }

    /** "% and what follows up to a byte 10 (or the end) is nothing" */
    private static void inComment(Bench b, char c) {
        b.leaves("1%" + c + "2", c == 10 ? "1 2" : "1");
        b.leaves("1%" + c, "1");
    }

    /** Within a string every byte is itself but ( ) and \; "behind a \ any byte stands for itself". */
    private static void inString(Bench b, char c) {
        if (c != '(' && c != ')' && c != '\\') {
            b.leaves("(" + c + ")", "(" + c + ")");
            b.due("bytes", b.machine.count(6), 1);
        }
        b.leaves("(\\" + c + ")", "(" + c + ")");
        b.due("bytes", b.machine.count(6), 1);
        b.fails("(\\" + c, 1, "-", "");
    }

    private static void alone(Bench b, char c) {
        String text = "5 " + c;
        if (c <= 32 || c == '%') {
            b.leaves(text, "5");
        } else if (c > 126 || "{}<>()".indexOf(c) >= 0) {
            b.fails(text, 1, "-", "5");
            b.due("steps", b.machine.count(3), 2);
        } else if (isRegular(c) && c != '=' && (c < '0' || c > '9')) {
            b.fails(text, 5, String.valueOf(c), "5");
        }
    }

    /** What has digits on both sides of another byte than # is no number. */
    private static void amongDigits(Bench b, char c) {
        if (isRegular(c) && c != '#' && (c < '0' || c > '9')) {
            for (String text : new String[] {"2" + c + "1", "16" + c + "1", "36" + c + "ab", "010" + c + "1", c + "1" + c, "1" + c}) {
                b.fails(text, 5, text, "");
            }
        }
    }

    private static void comments(Bench b) {
        b.leaves("", "");
        b.leaves("%", "");
        b.leaves("%%1\n2", "2");
        b.leaves("1%\n%2\n3", "1 3");
        b.leaves("%\n\n1", "1");
        b.leaves("{1%}\n2}", "{1 2}");
        b.leaves("(1%2)", "(1%2)");
        b.leaves("/a%b", "/a");
        b.leaves("[%", "mark");
        b.fails("{%}", 1, "-", "");
    }

    private static void strings(Bench b) {
        b.leaves("()", "()");
        b.leaves("()()", "() ()");
        b.leaves("(())", "(())");
        b.leaves("(()())", "(()())");
        b.leaves("((()))", "((()))");
        b.leaves("(\\)\\()", "()()");
        b.leaves("(\\\\)", "(\\)");
        b.leaves("(\\(\\\\(\\)))", "((\\()))");
        b.fails("(", 1, "-", "");
        b.fails("(()", 1, "-", "");
        b.fails("(\\)", 1, "-", "");
        b.fails("(\\\\\\)", 1, "-", "");
        b.fails("())", 1, "-", "()");
        b.leaves("(" + "x".repeat(298) + ")", "(" + "x".repeat(298) + ")");
        b.fails("(" + "x".repeat(299), 1, "-", "");
        b.due("no row was made", b.machine.count(6), 0);
        b.leaves("(" + "(".repeat(149) + ")".repeat(149) + ")", "(" + "(".repeat(149) + ")".repeat(149) + ")");
    }

    private static void numbers(Bench b) {
        String[] texts = {
            "0", "1", "-1", "+1", "-0", "+0", "2147483647", "2147483648", "-2147483648", "-2147483649", "+2147483648",
            "4294967295", "4294967296", "4294967297", "-4294967295", "-4294967296", "-4294967297", "9223372036854775807",
            "9223372036854775808", "18446744073709551615", "99999999999999999999999999", "-99999999999999999999999999",
            "00000000000000000000000000000007", "-00000000000000000000000000000007", "9".repeat(300), "0".repeat(300),
        };
        for (String text : texts) {
            b.leaves(text, Integer.toString(new BigInteger(text).intValue()));
        }
        for (String text : new String[] {"+", "-", "+-1", "-+1", "++1", "1+", "1-", "1.", ".1", "1a", "a1", "1#", "-2#1", "+2#1"}) {
            b.fails(text, 5, text, "");
        }
    }

    /** "one or two digits that make 2 .. 36, #, and at least one digit to that base (0 .. 9, a .. z, A .. Z), and no more" */
    private static void bases(Bench b) {
        String digits = "0123456789abcdefghijklmnopqrstuvwxyz";
        for (int base = 0; base <= 99; base++) {
            String two = (base < 10 ? "0" : "") + base;
            for (String prefix : new String[] {Integer.toString(base), two}) {
                if (base < 2 || base > 36) {
                    b.fails(prefix + "#0", 5, prefix + "#0", "");
                    continue;
                }
                b.leaves(prefix + "#0", "0");
                b.leaves(prefix + "#" + digits.charAt(base - 1), Integer.toString(base - 1));
                b.leaves(prefix + "#" + digits.toUpperCase().charAt(base - 1) + "0", Integer.toString((base - 1) * base));
                b.fails(prefix + "#", 5, prefix + "#", "");
                if (base < 36) {
                    String above = prefix + "#0" + digits.charAt(base);
                    b.fails(above, 5, above, "");
                    b.fails(above.toUpperCase(), 5, above.toUpperCase(), "");
                }
            }
        }
        for (String text : new String[] {"002#1", "016#1", "#", "#1", "##1", "2##1", "2#1#1", "2#+1", "2#-1", "2#1.", "a#1", "1a#1", "#2#1", "+#1"}) {
            b.fails(text, 5, text, "");
        }
        for (String text : new String[] {"16#@", "16#`", "36#[", "36#{", "36#:", "36#_", "16#g", "16#G"}) {
            b.fresh();
            b.due(text + " is no number", b.run(text), 2);
        }
        b.leaves("2#11111111111111111111111111111111", "-1");
        b.leaves("2#100000000000000000000000000000000", "0");
        b.leaves("16#7fffffff 16#80000000 16#FFFFFFFF 16#100000000", "2147483647 -2147483648 -1 0");
        b.leaves("36#zzzzzzz", Integer.toString(new BigInteger("zzzzzzz", 36).intValue()));
        b.leaves("36#" + "Z".repeat(297), Integer.toString(new BigInteger("z".repeat(297), 36).intValue()));
    }

    /** "A name has 16 bytes at most, perhaps none behind /." A number is no name, however long it is. */
    private static void names(Bench b) {
        b.leaves("/", "/");
        b.leaves("//", "/ /");
        b.leaves("/ 1", "/ 1");
        b.leaves("/a(b)", "/a (b)");
        b.leaves("/1234567890123456", "/1234567890123456");
        b.fails("/12345678901234567", 2, "-", "");
        b.fails("5 a234567890123456", 5, "a234567890123456", "5");
        b.fails("5 a2345678901234567", 2, "-", "5");
        b.due("no name was met", b.machine.count(4), 83);
        b.fails("/" + "a".repeat(299), 2, "-", "");
        b.fails("a".repeat(300), 2, "-", "");
        b.leaves("12345678901234567890 2#00000000000000001", "-350287150 1");
        b.fails("{a234567890123456 a2345678901234567 later}", 2, "-", "");
        b.due("only the first was met", b.machine.count(4), 84);
        b.leaves("/a /A /a", "/a /A /a");
        b.due("names are met once", b.machine.count(4), 85);
        // All that differ in one byte are others, also in the last ones.
        b.leaves("/abcdefghijklmnop /abcdefghijklmnoq /abcdefghijklmno /bbcdefghijklmnop /abcdefghbjklmnop",
            "/abcdefghijklmnop /abcdefghijklmnoq /abcdefghijklmno /bbcdefghijklmnop /abcdefghbjklmnop");
        b.due("five names", b.machine.count(4), 88);
    }

    /** "procedures more than 8 within each other"; "also a } that closes nothing"; "a string or procedure without its end" */
    private static void procedures(Bench b) {
        b.leaves("{}", "{}");
        b.due("no values", b.machine.count(5), 0);
        b.leaves("{{{{{{{{ 5 }}}}}}}}" + "{{{{{{{{ 6 }}}}}}}}" + "pop pop", "");
        b.due("values", b.machine.count(5), 16);
        b.leaves("{{{{{{{{}{}}}}}}}{{}}} pop", "");
        b.fails("{{{{{{{{{", 2, "-", "");
        b.fails("{{{{{{{{{}}}}}}}}}", 2, "-", "");
        b.fails("{{{{{{{{}{{", 2, "-", "");
        b.fails("{{{{{{{{", 1, "-", "");
        b.fails("{}}", 1, "-", "{}");
        b.fails("}{", 1, "-", "");
        b.fails("{{}", 1, "-", "");
        b.leaves("{" + "1 ".repeat(149) + "}", "{" + "1 ".repeat(149).trim() + "}");
        b.leaves("{" + "[".repeat(298) + "}", "{" + "[ ".repeat(298).trim() + "}");
        b.due("values of a full tape", b.machine.count(5), 298);
        b.fails("{" + "[".repeat(299), 1, "-", "");
        b.due("no row was made", b.machine.count(5), 0);
        b.leaves("{[]<<>>}", "{[ ] << >>}");
        b.fails("{<}", 1, "-", "");
        b.fails("{>}", 1, "-", "");
        b.fails("< <", 1, "-", "");
        b.fails("mark > >", 1, "-", "mark");
        b.fails("<<<", 1, "-", "mark");
        b.fails("<<>>>", 1, "-", "dict2");
    }
}
