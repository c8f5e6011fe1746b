import java.util.ArrayList;
import java.util.List;

/**
 * Promise 3: "3 stackunderflow: fewer operands than it takes. 4 typecheck: a kind that it does not take."
 * Each operator is tried with every row of kinds, and with every number of operands that is too small.
 */
public final class Promise03KindsTest {
    // A letter for each kind, and what makes a value of it.
    private static final String LETTERS = "0ibmNXAPSDO";
    private static final String[] TEXTS = {
        "null", "1", "true", "mark", "/q", "/q cvx", "[]", "{}", "()", "1 dict", "/add load",
    };
    private static final String KEY = "ibNXS";
    // What each operator takes, the last one on top: the kinds of each operand; * is all; | parts what may be.
    private static final String[][] TAKEN = {
        {"*", "pop dup exec stopped cvx cvlit xcheck type ="},
        {"* *", "exch eq ne"},
        {"i", "copy index neg abs array string dict"},
        {"i i", "roll add sub mul idiv mod"},
        {"i i|S S", "lt le gt ge"},
        {"i i|b b", "and or xor"},
        {"i|b", "not"},
        {"NXAPSD", "length"},
        {"APS i|D " + KEY, "get"},
        {"AP i *|S i i|D " + KEY + " *", "put"},
        {"APS i i", "getinterval"},
        {"AP i AP|S i S", "putinterval"},
        {"AP", "aload astore"},
        {"D", "begin maxlength"},
        {KEY + " *", "def store"},
        {KEY, "load where"},
        {"D " + KEY, "known undef"},
        {"b P", "if"},
        {"b P P", "ifelse"},
        {"i i i P", "for"},
        {"i P", "repeat"},
        {"P", "loop bind"},
        {"APSD P", "forall"},
        {"S", "print"},
        {"", "clear count mark [ << cleartomark counttomark true false null ] >> end currentdict countdictstack exit stop quit"},
    };

    private static final String LOOKS_BELOW =
        " copy index roll clear count cleartomark counttomark ] >> astore exec stopped ";

    public static void main(String[] args) {
        Bench b = new Bench("Promise03KindsTest");
        int operators = 0;
        for (String[] row : TAKEN) {
            for (String operator : row[1].split(" ")) {
                operators++;
                tooFew(b, operator, takenBy(row[0]));
                everyRow(b, operator, row[0]);
            }
        }
        b.due("operators looked at", operators, 74);
        b.end();
    }

    private static int takenBy(String taken) {
        return taken.isEmpty() ? 0 : taken.split("\\|")[0].split(" ").length;
    }

    /** 3 comes before 4: it is the error also where the kinds are wrong. */
    private static void tooFew(Bench b, String operator, int taken) {
        for (int n = 0; n < taken; n++) {
            for (String text : new String[] {"null", "1", "{}"}) {
                b.fresh();
                b.endsHere((text + " ").repeat(n));
                b.failsHere(operator, 3, operator);
            }
        }
        if (taken == 0) {
            b.fresh();
            b.run(operator);
            b.due(operator + " of nothing is no 3", b.machine.error(0) == 3 ? 1 : 0, 0);
        }
    }

    private static void everyRow(Bench b, String operator, String taken) {
        int n = takenBy(taken);
        List<String> rows = new ArrayList<>(List.of(""));
        for (int i = 0; i < n; i++) {
            List<String> longer = new ArrayList<>();
            for (String row : rows) {
                for (char letter : LETTERS.toCharArray()) {
                    longer.add(row + letter);
                }
            }
            rows = longer;
        }
        for (String row : rows) {
            oneRow(b, operator, row, isTaken(row, taken));
        }
    }

    private static boolean isTaken(String row, String taken) {
        for (String choice : taken.split("\\|")) {
            String[] places = choice.split(" ");
            boolean fits = true;
            for (int i = 0; i < row.length(); i++) {
                fits = fits && (places[i].equals("*") || places[i].indexOf(row.charAt(i)) >= 0);
            }
            if (fits) {
                return true;
            }
        }
        return false;
    }

    private static void oneRow(Bench b, String operator, String row, boolean isTaken) {
        b.fresh();
        for (char letter : row.toCharArray()) {
            b.endsHere(TEXTS[LETTERS.indexOf(letter)]);
        }
        if (isTaken) {
            int result = b.run(operator, 30);
            b.due(operator + " of " + row + " is no 4", b.machine.error(0) == 4 ? 1 : 0, 0);
            if (!LOOKS_BELOW.contains(" " + operator + " ")) {
                withMoreBelow(b, operator, row, result, b.operands());
            }
        } else {
            b.failsHere(operator, 4, operator);
        }
    }

    /** What is below the operands that it takes is nothing to an operator, and stays. */
    private static void withMoreBelow(Bench b, String operator, String row, int result, String operands) {
        b.fresh();
        b.endsHere("currentdict currentdict currentdict");
        for (char letter : row.toCharArray()) {
            b.endsHere(TEXTS[LETTERS.indexOf(letter)]);
        }
        b.due(operator + " of " + row + " above others", b.run(operator, 30), result);
        b.due(operator + " of " + row + " above others", b.operands(), ("dict1 dict1 dict1 " + operands).trim());
    }
}
