public final class Promise08PlaceTest {
    public static void main(String[] args) {
        Bench b = new Bench();
        b.with(0, "", ".byte 1", "a:", "", "b: nop", "c: # where things stand", ".byte 2", "d: .word 5", "e: .space 0",
                "f: .global f", "g: li x1,5000", ".space 3", "h:", ".global a",
                ".global b");
        b.with(1, "i:", ".byte 3", "j:", "k: mv x1,x2", "la x1,a", "la x1,b", "la x1,j", "la x1,k");
        Bench.thrown("place(0, 0) without an image", IllegalStateException.class, () -> b.place(0, 0));
        Bench.thrown("place(2, 0) without an image", IllegalStateException.class, () -> b.place(2, 0));
        b.linked(28 + 8 + 32);
        int[] first = {0, 0, 1, 1, 4, 8, 8, 9, 13, 13, 16, 24, 27, 27, 27};
        for (int k = 0; k < first.length; k++) {
            b.placed(0, k, first[k]);
        }
        int[] second = {28, 28, 29, 32, 36, 44, 52, 60};
        for (int k = 0; k < second.length; k++) {
            b.placed(1, k, second[k]);
        }
        // Labels stand for the same addresses.
        Bench.same("la of a label alone", "addi x1,x1,1", b.shown(b.wordAt(40)));
        Bench.same("la of a label with an instruction", "addi x1,x1,4", b.shown(b.wordAt(48)));
        Bench.same("la of a label before zeros", "addi x1,x1,29", b.shown(b.wordAt(56)));
        Bench.same("la of a label behind zeros", "addi x1,x1,32", b.shown(b.wordAt(64)));

        for (int module : new int[] {-1, 2, Integer.MIN_VALUE, Integer.MAX_VALUE}) {
            Bench.thrown("place(" + module + ", 0)", IndexOutOfBoundsException.class, () -> b.place(module, 0));
        }
        for (int k : new int[] {-1, 15, 16, Integer.MIN_VALUE, Integer.MAX_VALUE}) {
            Bench.thrown("place(0, " + k + ")", IndexOutOfBoundsException.class, () -> b.place(0, k));
        }
        Bench.thrown("place(1, 8)", IndexOutOfBoundsException.class, () -> b.place(1, 8));
        Bench empty = new Bench();
        empty.linked(0);
        Bench.thrown("place(0, 0) of no lines", IndexOutOfBoundsException.class, () -> empty.place(0, 0));
        Bench.thrown("place(1, 0) of no lines", IndexOutOfBoundsException.class, () -> empty.place(1, 0));
        b.clear(1);
        Bench.thrown("place(0, 0) of no image", IllegalStateException.class, () -> b.place(0, 0));
        instructionsStandAtMultiplesOf4();
        Bench.end();
    }

    private static void instructionsStandAtMultiplesOf4() {
        for (String text : new String[] {"add x1,x2,x3", "sra x1,x2,x3", "addi x1,x2,3", "addiw x1,x2,3", "slli x1,x2,3", "lui x1,2",
            "lbu x1,2(x3)", "sb x1,2(x3)", "beq x1,x2,a", "jal x1,a", "jalr x1,2(x3)", "nop", "mv x1,x2", "ret", "j a", "call a",
            "beqz x1,a", "bnez x1,a", "li x1,5", "li x1,4096", "li x1,5000", "la x1,a"}) {
            Bench b = new Bench().with(1, ".byte 1", "a: " + text, "b:", ".byte 2");
            b.link();
            b.placed(1, 1, 4);
            int size = text.equals("la x1,a") || text.equals("li x1,5000") ? 8 : 4;
            b.placed(1, 2, 4 + size);
            Bench.due("the byte behind " + text, 2, () -> b.image(4 + size));
        }
        for (String text : new String[] {".word 5", ".byte 5", ".space 5", ".global a", "", "# a"}) {
            Bench b = new Bench().with(1, ".byte 1", "a: " + text);
            b.link();
            b.placed(1, 1, 1);
        }
    }
}
