public final class Promise10LetterTest {
    public static void main(String[] args) {
        Bench b = new Bench();
        Bench.thrown("letter(0) of a new object", IndexOutOfBoundsException.class, () -> b.letter(0));
        b.show(0x80950023);
        String text = "sb x9,-2048(x10)";
        for (int k = 0; k < text.length(); k++) {
            int i = k;
            Bench.due("letter(" + i + ")", text.charAt(i), () -> b.letter(i));
        }
        for (int k : new int[] {-1, text.length(), 28, Integer.MIN_VALUE, Integer.MAX_VALUE}) {
            Bench.thrown("letter(" + k + ")", IndexOutOfBoundsException.class, () -> b.letter(k));
        }
        // What was written out stays, whatever else is done.
        b.with(0, "nop");
        b.linked(4);
        b.clear(0);
        b.refused("foo");
        Bench.due("letter(0)", 's', () -> b.letter(0));
        Bench.due("letter(15)", ')', () -> b.letter(15));
        b.show(0x00000063);
        Bench.due("letter(10)", '0', () -> b.letter(10));
        Bench.thrown("letter(11) of a shorter text", IndexOutOfBoundsException.class, () -> b.letter(11));
        Bench.thrown("show(0)", IllegalArgumentException.class, () -> b.show(0));
        Bench.thrown("letter(0) of nothing", IndexOutOfBoundsException.class, () -> b.letter(0));
        Bench.end();
    }
}
