public final class Promise01NewObjectTest {
    public static void main(String[] args) {
        Bench b = new Bench();
        Bench.due("lines(0) of a new object", 0, () -> b.lines(0));
        Bench.due("lines(1) of a new object", 0, () -> b.lines(1));
        b.noImage();
        Bench.thrown("letter(0) of a new object", IndexOutOfBoundsException.class, () -> b.letter(0));
        Bench.due("line(0) of a new object: the empty line", 1, () -> b.line(0));

        Bench other = new Bench();
        other.linked(0);
        Bench.thrown("image(0) of an empty image", IndexOutOfBoundsException.class, () -> other.image(0));
        Bench.due("far() of an empty image", 0, () -> other.far());

        b.with(0, "a: nop");
        Bench.due("lines(0) of another object", 0, () -> other.lines(0));
        Bench.end();
    }
}
