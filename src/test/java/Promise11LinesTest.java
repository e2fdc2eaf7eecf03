public final class Promise11LinesTest {
    public static void main(String[] args) {
        Bench b = new Bench();
        for (int k = 0; k < 16; k++) {
            int count = k;
            Bench.due("lines(1)", count, () -> b.lines(1));
            b.add(1, k % 2 == 0 ? "" : "nop");
        }
        Bench.due("lines(1)", 16, () -> b.lines(1));
        Bench.due("lines(0)", 0, () -> b.lines(0));
        Bench.thrown("a line too many", IllegalStateException.class, () -> b.line(1));
        Bench.due("lines(1) after it", 16, () -> b.lines(1));
        b.linked(32);
        Bench.due("lines(1) with an image", 16, () -> b.lines(1));
        Bench.due("the image after lines", 0, () -> b.far());
        for (int module : new int[] {-1, 2, Integer.MIN_VALUE, Integer.MAX_VALUE}) {
            Bench.thrown("lines(" + module + ")", IllegalArgumentException.class, () -> b.lines(module));
        }
        b.clear(1);
        Bench.due("lines(1) of a cleared module", 0, () -> b.lines(1));
        Bench.end();
    }
}
