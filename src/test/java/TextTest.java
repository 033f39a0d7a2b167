/** Promises 3 (type), 4 (cut) and 25 (character), and what the terms say of the text. */
public final class TextTest {
    private static final int MOST = 48;
    private static final String EIGHT = "(0 1) ~x";
    private static final int[] NO_CHARACTERS = {31, 127, 0, 1, 10, 128, 160, 200, 254, 255};

    public static void main(String[] args) {
        lowestByteFirst();
        behindTheText();
        bytesAboveAreNoCharacters();
        charactersThereAre();
        fullAndOneMore();
        noSuchNumberOfCharacters();
        noSuchCharacter();
        severalReasons();
        keepsTheFirst();
        cutOfTheEmpty();
        cutOfTheFull();
        cutRefused();
        cutIsGone();
        character();
        noSuchIndex();
        Check.finish();
    }

    /** A puzzle with all that it can have, and this text. */
    private static State with(String text) {
        return x -> {
            States.square(x);
            x.text(text);
        };
    }

    private static String textOf(int length) {
        return States.FULL_TEXT.substring(0, length);
    }

    private static void lowestByteFirst() {
        Check.says("Promise 3", "n characters come behind the text, the lowest byte of w first.");
        for (int n = 1; n <= 8; n++) {
            Counted x = new Counted();
            Check.yes("type of " + n, x.type(0x6867666564636261L, n));
            Check.due("text", x.readText(), "abcdefgh".substring(0, n));
            Check.due("the last", x.character(n - 1), 'a' + n - 1);
            Check.due("behind it", x.character(n), 0);
        }
    }

    private static void behindTheText() {
        Check.says("Promise 3", "n characters come behind the text, the lowest byte of w first.");
        Counted x = new Counted();
        StringBuilder text = new StringBuilder();
        for (int n = 8; n >= 1; n--) {
            String part = "!\"#$%&'z".substring(8 - n);
            Check.yes("type of " + part, x.type(Foundry.bytes(part), n));
            text.append(part);
            Check.due("text", x.readText(), text.toString());
        }
    }

    private static void bytesAboveAreNoCharacters() {
        Check.says("Promise 3", "n characters come behind the text");
        for (int n = 1; n < 8; n++) {
            for (int above : NO_CHARACTERS) {
                long w = Foundry.bytes("abcdefg".substring(0, n));
                for (int i = n; i < 8; i++) {
                    w |= (long) above << (8 * i);
                }
                Counted x = new Counted();
                Check.yes("type of " + n + " with " + above + " above them", x.type(w, n));
                Check.due("text", x.readText(), "abcdefg".substring(0, n));
            }
        }
    }

    private static void charactersThereAre() {
        Check.says("Terms", "THE TEXT has at most 48 characters 32 .. 126.");
        for (int c = 32; c <= 126; c++) {
            Counted x = new Counted();
            for (int i = 0; i < 8; i++) {
                Check.yes("type of " + c, x.type((long) c << (8 * i) | (0x2020202020202020L & ~(255L << (8 * i))), 8)
                    && x.character(i) == c && x.cut(0));
            }
        }
    }

    private static void fullAndOneMore() {
        Check.says("Promise 3", "False, changing nothing, when n is not 1 .. 8, there would be more than 48");
        for (int length = 0; length <= MOST; length++) {
            String text = textOf(length);
            for (int n = 1; n <= 8; n++) {
                int number = n;
                if (length + n > MOST) {
                    Check.isFalse(with(text), "type of " + n + " behind " + length,
                        x -> x.type(Foundry.bytes(EIGHT), number));
                } else {
                    Counted x = Counted.in(y -> y.text(text));
                    Check.yes("type of " + n + " behind " + length, x.type(Foundry.bytes(EIGHT), n));
                    Check.due("text", x.readText(), text + EIGHT.substring(0, n));
                }
            }
        }
    }

    private static void noSuchNumberOfCharacters() {
        Check.says("Promise 3", "False, changing nothing, when n is not 1 .. 8");
        for (int length : new int[] {0, 1, 39, 40, 47, MOST}) {
            for (int n : new int[] {0, 9, -1, 10, -8, 16, 48, 64, 256 + 1, Integer.MAX_VALUE, Integer.MAX_VALUE - 47,
                Integer.MIN_VALUE, Integer.MIN_VALUE + 1}) {
                Check.isFalse(with(textOf(length)), "type of " + n + " behind " + length,
                    x -> x.type(Foundry.bytes(EIGHT), n));
            }
        }
    }

    private static void noSuchCharacter() {
        Check.says("Promise 3", "or one is not as said.");
        for (int bad : NO_CHARACTERS) {
            for (int i = 0; i < 8; i++) {
                long w = Foundry.bytes(EIGHT) & ~(255L << (8 * i)) | (long) bad << (8 * i);
                for (int n = i + 1; n <= 8; n++) {
                    Counted x = Counted.in(y -> y.text("(0)"));
                    Check.no("type of " + n + " with " + bad + " at " + i, x.type(w, n));
                    Check.due("text", x.readText(), "(0)");
                }
                Check.isFalse(with("(0)"), "type of eight with " + bad + " at " + i, x -> x.type(w, 8));
            }
        }
        for (int c = 0; c < 256; c++) {
            Check.due("type of character " + c, new Counted().type(c, 1), c >= 32 && c <= 126);
        }
        for (long w : new long[] {0, -1, Long.MIN_VALUE, Long.MAX_VALUE, 1, 31, 127}) {
            Check.isFalse(x -> { }, "type(" + w + ", 8)", x -> x.type(w, 8));
            Check.isFalse(x -> { }, "type(" + w + ", 1)", x -> x.type(w, 1));
        }
    }

    private static void severalReasons() {
        Check.says("Promise 3", "False, changing nothing, when n is not 1 .. 8, there would be more than 48, or one");
        Check.isFalse(with(textOf(MOST)), "a bad one behind the full text", x -> x.type(7, 1));
        Check.isFalse(with(textOf(MOST)), "nine bad ones behind it", x -> x.type(-1L, 9));
        Check.isFalse(with(textOf(45)), "the fourth is bad and the 49th", x -> x.type(0x7F616161L, 4));
        Check.isFalse(States::allOfTwelve, "one more, in the greatest puzzle", x -> x.type('a', 1));
    }

    private static void keepsTheFirst() {
        Check.says("Promise 4", "The text keeps its first n characters.");
        for (int n = 0; n <= MOST; n++) {
            Counted x = Counted.in(y -> y.text(textOf(MOST)));
            Check.yes("cut(" + n + ")", x.cut(n));
            Check.due("text", x.readText(), textOf(n));
        }
    }

    private static void cutOfTheEmpty() {
        Check.says("Promise 4", "The text keeps its first n characters.");
        Check.onlyAnswers(x -> { }, "cut(0) of the empty", true, x -> x.cut(0));
        Check.isFalse(x -> { }, "cut(1) of the empty", x -> x.cut(1));
        Check.isFalse(x -> { }, "cut(-1) of the empty", x -> x.cut(-1));
    }

    private static void cutOfTheFull() {
        Check.says("Promise 4", "The text keeps its first n characters.");
        State full = with(textOf(MOST));
        Check.onlyAnswers(full, "cut(48) of the full", true, x -> x.cut(MOST));
        Check.isFalse(full, "cut(49) of the full", x -> x.cut(MOST + 1));
    }

    private static void cutRefused() {
        Check.says("Promise 4", "False, changing nothing, when n is negative, or it has not so many.");
        for (int length : new int[] {0, 1, 6, 47, MOST}) {
            for (int n : new int[] {-1, length + 1, length + 2, 49, 50, 256, -length - 1, Integer.MAX_VALUE,
                Integer.MIN_VALUE, Integer.MIN_VALUE + 1}) {
                Check.isFalse(with(textOf(length)), "cut(" + n + ") of " + length, x -> x.cut(n));
            }
            Check.onlyAnswers(with(textOf(length)), "cut of all " + length, true, x -> x.cut(length));
        }
    }

    private static void cutIsGone() {
        Check.says("Promise 4", "False, changing nothing, when n is negative, or it has not so many.");
        Counted x = Counted.in(y -> y.text("abcdef"));
        Check.yes("cut(2)", x.cut(2));
        Check.no("cut(3) after it", x.cut(3));
        Check.due("character(2)", x.character(2), 0);
        Check.yes("type", x.type('z', 1));
        Check.due("text", x.readText(), "abz");
        Check.due("character(3)", x.character(3), 0);
    }

    private static void character() {
        Check.says("Promise 25", "Character i of the text");
        Counted x = Counted.in(y -> y.text(States.FULL_TEXT));
        for (int i = 0; i < MOST; i++) {
            Check.due("character(" + i + ")", x.character(i), (int) States.FULL_TEXT.charAt(i));
        }
    }

    private static void noSuchIndex() {
        Check.says("Promise 25", "0 when there is none.");
        for (int length = 0; length <= MOST; length++) {
            Counted x = Counted.in(States::square);
            x.text(textOf(MOST));
            x.cut(length);
            for (int i : new int[] {length, length + 1, 47, MOST, MOST + 1, 256, -1, -2, -length - 1, Integer.MAX_VALUE,
                Integer.MIN_VALUE, Integer.MIN_VALUE + 1}) {
                int want = i == 47 && length == MOST ? '~' : 0;
                Check.due("character(" + i + ") of " + length, x.character(i), want);
            }
        }
        for (int i : new int[] {-1, 48, Integer.MAX_VALUE, Integer.MIN_VALUE}) {
            Check.onlyAnswers(States::allOfTwelve, "character(" + i + ") of the full text", 0, x -> x.character(i));
        }
    }
}
