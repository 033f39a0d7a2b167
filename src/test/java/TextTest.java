/** Promises 3 (type), 4 (cut) and 25 (character). */
public final class TextTest {
    public static void main(String[] args) {
        lowestByteFirst();
        refusedNumbers();
        refusedCharacters();
        fullText();
        cutting();
        Check.finish();
    }

    private static void lowestByteFirst() {
        StickerFoundry x = new StickerFoundry();
        Check.yes("type", x.type(Check.bytes("abcdefgh"), 8));
        Check.due("text", Check.textOf(x), "abcdefgh");
        Check.yes("type more", x.type(Check.bytes("XYZ"), 2));
        Check.due("behind it", Check.textOf(x), "abcdefghXY");
        Check.yes("bytes above the last do not count", x.type(0xFFFFFFFFFFFFFF41L, 1));
        Check.due("behind that", Check.textOf(x), "abcdefghXYA");
        Check.due("character(10)", x.character(10), 65);
        for (int i : new int[] {11, 12, 47, 48, 49, -1, Integer.MIN_VALUE, Integer.MAX_VALUE}) {
            Check.due("character(" + i + ")", x.character(i), 0);
        }
    }

    private static void refusedNumbers() {
        StickerFoundry x = new StickerFoundry();
        x.type('a', 1);
        for (int n : new int[] {0, -1, 9, 10, Integer.MAX_VALUE, Integer.MIN_VALUE}) {
            long w = Check.bytes("abcdefgh");
            Check.unchanged(x, "type of " + n, () -> Check.no("type of " + n, x.type(w, n)));
        }
    }

    private static void refusedCharacters() {
        StickerFoundry x = new StickerFoundry();
        for (int c = 0; c < 256; c++) {
            int wanted = c >= 32 && c <= 126 ? 1 : 0;
            Check.due("type of character " + c, x.type(c, 1), wanted == 1);
            Check.due("character " + c, x.character(0), wanted * c);
            Check.yes("cut", x.cut(0));
        }
        for (int i = 0; i < 8; i++) {
            long bad = Check.bytes("abcdefgh") & ~(255L << (8 * i)) | 127L << (8 * i);
            Check.unchanged(x, "type with a bad one", () -> Check.no("type with a bad one", x.type(bad, 8)));
            Check.due("type of those before it", i > 0, i > 0 && x.type(bad, i));
            x.cut(0);
        }
        Check.no("a negative w", x.type(-1L, 8));
    }

    private static void fullText() {
        StickerFoundry x = new StickerFoundry();
        Check.text(x, "0123456789012345678901234567890123456789abcdef");
        Check.unchanged(x, "49 characters", () -> Check.no("49 characters", x.type(Check.bytes("ghi"), 3)));
        Check.yes("48 characters", x.type(Check.bytes("gh"), 2));
        Check.due("character(47)", x.character(47), (int) 'h');
        Check.due("character(48)", x.character(48), 0);
        Check.unchanged(x, "one more", () -> Check.no("one more", x.type('i', 1)));
        Check.no("cut(49)", x.cut(49));
        Check.yes("cut(48)", x.cut(48));
    }

    private static void cutting() {
        StickerFoundry x = new StickerFoundry();
        Check.text(x, "abcdef");
        for (int n : new int[] {7, 48, -1, Integer.MAX_VALUE, Integer.MIN_VALUE}) {
            Check.unchanged(x, "cut(" + n + ")", () -> Check.no("cut(" + n + ")", x.cut(n)));
        }
        Check.yes("cut(6)", x.cut(6));
        Check.due("text", Check.textOf(x), "abcdef");
        Check.yes("cut(2)", x.cut(2));
        Check.due("text", Check.textOf(x), "ab");
        Check.no("cut(3)", x.cut(3));
        Check.yes("type", x.type('z', 1));
        Check.due("text", Check.textOf(x), "abz");
        Check.yes("cut(0)", x.cut(0));
        Check.due("text", Check.textOf(x), "");
    }
}
