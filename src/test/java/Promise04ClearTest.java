public final class Promise04ClearTest {
    public static void main(String[] args) {
        Bench b = new Bench();
        b.with(0, "a: nop", ".global a").with(1, "j a", "b: nop");
        b.linked(12);
        for (int module : new int[] {-1, 2, Integer.MIN_VALUE, Integer.MAX_VALUE}) {
            Bench.thrown("clear(" + module + ")", IllegalArgumentException.class, () -> b.clear(module));
        }
        Bench.due("the image is there after that", 0x13, () -> b.image(0));

        b.type("c: ");
        b.clear(0);
        Bench.due("lines(0)", 0, () -> b.lines(0));
        Bench.due("lines(1)", 2, () -> b.lines(1));
        b.noImage();
        // What was typed stays, and the cleared labels are free again, as is what was given away.
        Bench.due("'c: nop'", 1, () -> b.add(0, "nop"));
        b.with(0, "a: nop");
        b.linkThrows(java.util.NoSuchElementException.class);
        b.with(0, ".global a");
        b.linked(16);
        b.clear(1);
        b.noImage();
        b.linked(8);

        b.clear(0);
        b.linked(0);
        b.clear(0);
        b.noImage();
        for (int k = 0; k < 16; k++) {
            b.with(0, "");
        }
        b.clear(0);
        b.with(0, "nop");
        b.linked(4);
        Bench.end();
    }
}
