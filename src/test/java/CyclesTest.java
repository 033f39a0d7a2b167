import java.util.ArrayList;
import java.util.List;

/** What the terms say of a text in cycles, told by turn() in a puzzle of twelve stickers. */
public final class CyclesTest {
    private static final String TWELVE = "0 1 2 3 4 5 6 7 8 9 10 11";
    private static final int LONGEST = 5;

    public static void main(String[] args) {
        rowOfCycles();
        spacesAnywhere();
        spacesAsManyAsThereIsRoom();
        spaceWithinANumber();
        oneOrMoreNumbers();
        cycleHasBothEnds();
        numbersTo99();
        digitsAlone();
        noLeadingZero();
        nextAndLast();
        inNoCycle();
        withoutCycles();
        noTwoToTheSame();
        allShortTexts();
        Check.finish();
    }

    private static String outcome(String text) {
        return outcome(Counted.of(12), text);
    }

    private static String outcome(Foundry x, String text) {
        x.text(text);
        return Check.answer(x, y -> y.turn()) + " " + x.turns() + " " + (x.turns() > 0 ? x.readTurn(0) : "");
    }

    /** The text is a turn, which takes what is at place 0, 1, .. to these places. */
    private static void takes(String text, String row) {
        Check.due("turn() of '" + text + "'", outcome(text), "0 1 [" + row.replace(" ", ", ") + "]");
    }

    private static void isNot(String text) {
        Check.refused(x -> {
            States.solutionOfAnother(x);
            x.puzzle(12, "(0 1 2)");
            x.move(0);
            x.text(text);
        }, "turn() of '" + text + "'", IllegalArgumentException.class, x -> x.turn());
    }

    private static void rowOfCycles() {
        Check.says("Terms", "It is a turn IN CYCLES, if it is a row of cycles");
        takes("(0 1 2)", "1 2 0 3 4 5 6 7 8 9 10 11");
        takes("(0 1)(2 3)", "1 0 3 2 4 5 6 7 8 9 10 11");
        takes("(11 9 7 5 3 1)(0 2 4 6 8 10)", "2 11 4 1 6 3 8 5 10 7 0 9");
        takes("(0)(1)(2)(3)(4)(5)(6)(7)(8)(9)(10 11)", "0 1 2 3 4 5 6 7 8 9 11 10");
        isNot("(0 1)x");
        isNot("x(0 1)");
        isNot("(0 1),(2 3)");
        isNot("(0 1)2(3 4)");
    }

    private static void spacesAnywhere() {
        Check.says("Terms", "with spaces anywhere but within numbers");
        String row = "1 0 3 2 4 5 6 7 8 9 11 10";
        takes(" (0 1)(2 3)(10 11)", row);
        takes("(0 1)(2 3)(10 11) ", row);
        takes("( 0 1)(2 3)(10 11)", row);
        takes("(0 1 )(2 3)(10 11)", row);
        takes("(0 1) (2 3)(10 11)", row);
        takes("(0  1)(2 3)(10 11)", row);
        takes("  (  0   1  )  (  2   3  )  (  10   11  )  ", row);
    }

    private static void spacesAsManyAsThereIsRoom() {
        Check.says("Terms", "with spaces anywhere but within numbers");
        takes(" ".repeat(43) + "(0 1)", "1 0 2 3 4 5 6 7 8 9 10 11");
        takes("(" + " ".repeat(43) + "0 1)", "1 0 2 3 4 5 6 7 8 9 10 11");
        takes("(0" + " ".repeat(44) + "1)", "1 0 2 3 4 5 6 7 8 9 10 11");
        takes("(0 1" + " ".repeat(43) + ")", "1 0 2 3 4 5 6 7 8 9 10 11");
        takes("(0 1)" + " ".repeat(43), "1 0 2 3 4 5 6 7 8 9 10 11");
        takes(" ".repeat(48), TWELVE);
    }

    private static void spaceWithinANumber() {
        Check.says("Terms", "with spaces anywhere but within numbers");
        takes("(10)", TWELVE);
        takes("(1 0)", "1 0 2 3 4 5 6 7 8 9 10 11");
        takes("(2 10)", "0 1 10 3 4 5 6 7 8 9 2 11");
        takes("(2 1 0)", "2 0 1 3 4 5 6 7 8 9 10 11");
    }

    private static void oneOrMoreNumbers() {
        Check.says("Terms", "a cycle is (, one or more numbers with spaces between two, )");
        takes("(7)", TWELVE);
        takes("(0 1 2 3 4 5 6 7 8 9 10 11)", "1 2 3 4 5 6 7 8 9 10 11 0");
        for (String text : new String[] {"()", "( )", "(   )", "()()", "(0 1)()", "()(0 1)", "(0 1)( )(2 3)",
            "(" + " ".repeat(46) + ")"}) {
            isNot(text);
        }
    }

    private static void cycleHasBothEnds() {
        Check.says("Terms", "a cycle is (, one or more numbers with spaces between two, )");
        for (String text : new String[] {"(", ")", "(0", "0)", "0", "0 1", "(0 1", "(0 1 ", "(0 1))", "((0 1)", "((0 1))",
            "(0 (1))", "(0)1", "1(0)", "(0 1)(", "(0 1) )", "(0 1)(2 3", ")(", ")0(", ")0 1(", "(0(1)", "(0)1)",
            "(".repeat(48), ")".repeat(48), "(0 1)(2 3)(4 5)(6 7)(8 9)(10 11)               (", "0".repeat(48)}) {
            isNot(text);
        }
    }

    private static void numbersTo99() {
        Check.says("Terms", "Numbers are 0 .. 99");
        for (int number = 0; number <= 99; number++) {
            String want = number < 12 ? "0 1 [" + TWELVE.replace(" ", ", ") + "]" : "IndexOutOfBoundsException 0 ";
            Check.due("turn() of (" + number + ")", outcome("(" + number + ")"), want);
        }
        for (String number : new String[] {"100", "101", "110", "111", "120", "999", "1000", "1011", "2147483647",
            "4294967296", "4294967297", "18446744073709551616", "1" + "0".repeat(45)}) {
            isNot("(" + number + ")");
        }
        isNot("(0 100)");
        isNot("(100 0)");
        isNot("(0 1)(2 100)");
    }

    private static void digitsAlone() {
        Check.says("Terms", "Numbers are 0 .. 99, digits");
        for (int c = 32; c <= 126; c++) {
            for (String frame : new String[] {"?", "(?)", "(0?1)", "(0 ? 1)", "(0 1?)", "(?0 1)", "(0 1)?", "?(0 1)"}) {
                String text = frame.replace("?", Character.toString((char) c));
                PlainFoundry plain = new PlainFoundry();
                plain.stickers(12);
                Check.due("turn() of '" + text + "'", outcome(text), outcome(plain, text));
            }
        }
        for (String text : new String[] {"(-1)", "(+1)", "(0,1)", "(0/1)", "(0:1)", "(a)", "(0.1)", "(0x1)", "[0 1]",
            "(0\"1)", "(0 1~", "(0 1L)"}) {
            isNot(text);
        }
    }

    private static void noLeadingZero() {
        Check.says("Terms", "without a 0 before another digit");
        takes("(0)", TWELVE);
        takes("(0 10)", "10 1 2 3 4 5 6 7 8 9 0 11");
        for (String text : new String[] {"(00)", "(01)", "(09)", "(010)", "(0 01)", "(1 00)", "(000)", "(0 1)(02)"}) {
            isNot(text);
        }
    }

    private static void nextAndLast() {
        Check.says("Terms", "A cycle takes what is at each of its places to the next one, at the last one to the first.");
        takes("(3 11 5)", "0 1 2 11 4 3 6 7 8 9 10 5");
        takes("(11 0)", "11 1 2 3 4 5 6 7 8 9 10 0");
        takes("(11 10 9 8 7 6 5 4 3 2 1 0)", "11 0 1 2 3 4 5 6 7 8 9 10");
    }

    private static void inNoCycle() {
        Check.says("Terms", "What is at places that are in no cycle stays.");
        for (int p = 0; p < 11; p++) {
            List<Integer> row = new ArrayList<>();
            for (int q = 0; q < 12; q++) {
                row.add(q == p ? p + 1 : q == p + 1 ? p : q);
            }
            Counted x = Counted.of(12, "(" + p + " " + (p + 1) + ")");
            Check.due("turn (" + p + " " + (p + 1) + ")", x.readTurn(0), row);
        }
    }

    private static void withoutCycles() {
        Check.says("Terms", "(A text without cycles takes nothing anywhere.)");
        takes("", TWELVE);
        takes(" ", TWELVE);
        takes("        ", TWELVE);
        for (String text : new String[] {"", " ", " ".repeat(48)}) {
            Counted x = Counted.of(3, "(0 1 2)", text);
            Check.due("it is a turn", x.turns(), 2);
            Check.due("order", x.order(), 3L);
            Check.due("diameter", x.diameter(), 1);
            x.moveAll(0, 2, 3);
            Check.due("moves with it", x.readRow(), List.of(1, 2, 0));
            Check.due("solve()", x.solve(), 1);
            Check.due("solution", x.readSolution(), List.of(1));
            Check.due("write(1)", x.write(1), 0);
        }
        Counted x = new Counted();
        Check.due("turn() of a new object", x.turn(), 0);
        Check.due("its only place", x.image(0, 0), 0);
    }

    private static void noTwoToTheSame() {
        Check.says("Terms", "A turn takes the sticker that is at a place to a place, no two to the same one.");
        for (String text : new String[] {"", "(0)", "(0 1)", "(3 1 2)(0 11)", "(0 1 2 3 4 5 6 7 8 9 10 11)"}) {
            List<Integer> row = Counted.of(12, text).readTurn(0);
            Check.due("places that '" + text + "' leads to", row.stream().distinct().count(), 12L);
        }
    }

    /** Every text that is short enough, of the characters that matter. */
    private static void allShortTexts() {
        Check.says("Terms", "It is a turn IN CYCLES, if it is a row of cycles, with spaces anywhere but within numbers");
        List<String> texts = new ArrayList<>(List.of(""));
        for (int i = 0; i < texts.size(); i++) {
            String text = texts.get(i);
            PlainFoundry plain = new PlainFoundry();
            plain.stickers(12);
            Check.due("turn() of '" + text + "'", outcome(text), outcome(plain, text));
            for (int c = 0; c < 6 && text.length() < LONGEST; c++) {
                texts.add(text + "() 019".charAt(c));
            }
        }
    }
}
