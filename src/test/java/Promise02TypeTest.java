public final class Promise02TypeTest {
    public static void main(String[] args) {
        highestByteFirst();
        wrongCounts();
        wrongCharacters();
        tooLong();
        Bench.end();
    }

    private static void highestByteFirst() {
        Bench b = new Bench();
        // Only the lowest n bytes count, whatever stands above them.
        b.type(0xff00ff00006c6920L, 3);
        b.type(Bench.packed("zzzzx1,5"), 4);
        Bench.due("'li x1,5'", 1, () -> b.line(0));
        b.linked(4);
        b.words(0, 0x00500093);

        Bench one = new Bench();
        for (char c : "addi sp,sp,-16".toCharArray()) {
            one.type(c, 1);
        }
        Bench.due("a line typed by single characters", 1, () -> one.line(0));
        one.linked(4);
        one.words(0, 0xff010113);
    }

    private static void wrongCounts() {
        Bench b = new Bench();
        for (int n : new int[] {0, 9, -1, Integer.MIN_VALUE, Integer.MAX_VALUE}) {
            Bench.thrown("type with n " + n, IllegalArgumentException.class, () -> b.type(Bench.packed("nopnopno"), n));
        }
        Bench.due("nothing was typed", 1, () -> b.line(0));
    }

    private static void wrongCharacters() {
        Bench b = new Bench();
        for (long c : new long[] {0, 31, 127, 128, 160, 255}) {
            Bench.thrown("type of " + c, IllegalArgumentException.class, () -> b.type(c, 1));
            Bench.thrown("type of " + c + " in front", IllegalArgumentException.class,
                    () -> b.type(c << 56 | Bench.packed("aaaaaaa"), 8));
            Bench.thrown("type of " + c + " in the middle", IllegalArgumentException.class,
                    () -> b.type(c << 8 | 0x200020L, 3));
        }
        Bench.due("nothing was typed", 1, () -> b.line(0));
        b.type("# ~");
        b.type(32, 1);
        b.type(126, 1);
        Bench.due("32 and 126 are characters", 2, () -> b.line(0));
    }

    private static void tooLong() {
        Bench b = new Bench();
        b.type("nop                       ");
        Bench.thrown("3 more than 26", IllegalStateException.class, () -> b.type(Bench.packed("abc"), 3));
        Bench.thrown("a wrong character is told first", IllegalArgumentException.class, () -> b.type(0x20201f, 3));
        b.type("#!");
        Bench.thrown("1 more than 28", IllegalStateException.class, () -> b.type(32, 1));
        Bench.thrown("a wrong count is told first", IllegalArgumentException.class, () -> b.type(32, 9));
        Bench.due("a line of 28", 1, () -> b.line(0));
        b.linked(4);
        b.type("1234567890123456789012345678");
        Bench.thrown("a line of 28 digits", IllegalArgumentException.class, () -> b.line(0));
        Bench.due("the line is empty again", 2, () -> b.line(0));
    }
}
