public final class Promise07ImageTest {
    public static void main(String[] args) {
        instructions();
        shortOnes();
        constants();
        addresses();
        jumps();
        data();
        bounds();
        Bench.end();
    }

    /** The words are those of another assembler for the same processor. */
    private static void instructions() {
        Bench b = new Bench();
        b.with(0, "add x1,x2,x3", "sub x31,x30,x29", "sll x4,x5,x6", "slt x7,x8,x9", "sltu x10,x11,x12", "xor x13,x14,x15",
                "srl x16,x17,x18", "sra x19,x20,x21", "or x22,x23,x24", "and x25,x26,x27", "addi x1,x2,-2048", "slti x3,x4,2047",
                "xori x5,x6,-1", "ori x7,x8,1365", "andi x9,x10,0", "addiw x11,x12,-1366");
        b.with(1, "slli x13,x14,63", "srli x15,x16,32", "srai x17,x18,1", "lui x19,1048575", "lui x20,1", "lb x1,-2048(x2)",
                "lw x3,2047(x4)", "ld x5,8(x6)", "lbu x7,-1(x8)", "sb x9,-2048(x10)", "sw x11,2047(x12)", "sd x13,-31(x14)",
                "jalr x15,-4(x16)");
        b.linked(64 + 52);
        b.words(0, 0x003100b3, 0x41df0fb3, 0x00629233, 0x009423b3, 0x00c5b533, 0x00f746b3, 0x0128d833, 0x415a59b3, 0x018beb33,
                0x01bd7cb3, 0x80010093, 0x7ff22193, 0xfff34293, 0x55546393, 0x00057493, 0xaaa6059b);
        b.words(64, 0x03f71693, 0x02085793, 0x40195893, 0xfffff9b7, 0x00001a37, 0x80010083, 0x7ff22183, 0x00833283, 0xfff44383,
                0x80950023, 0x7eb62fa3, 0xfed730a3, 0xffc807e7);
    }

    private static void shortOnes() {
        Bench b = new Bench();
        b.with(0, "nop", "mv x30,x31", "ret", "a: j a", "call b", "beqz x9,b", "b: bnez x10,b", "bne x9,x0,c", "c:");
        b.linked(32);
        b.words(0, 0x00000013, 0x000f8f13, 0x00008067, 0x0000006f, 0x008000ef, 0x00048263, 0x00051063, 0x00049263);
    }

    private static void constants() {
        constant("li x1,2047", 0x7ff00093);
        constant("li x1,-2048", 0x80000093);
        constant("li x1,2048", 0x000010b7, 0x8000809b);
        constant("li x1,0", 0x00000093);
        constant("li x1,4096", 0x000010b7);
        constant("li x1,-4096", 0xfffff0b7);
        constant("li x1,-2049", 0xfffff0b7, 0x7ff0809b);
        constant("li x1,4095", 0x000010b7, 0xfff0809b);
        constant("li x1,2147483647", 0x800000b7, 0xfff0809b);
        constant("li x1,0x7ffff800", 0x800000b7, 0x8000809b);
        constant("li x1,0x7ffff000", 0x7ffff0b7);
        constant("li x1,-2147483648", 0x800000b7);
        constant("li x1,-2147483647", 0x800000b7, 0x0010809b);
        constant("li x1,-305419896", 0xedcbb0b7, 0x9880809b);
        constant("li x31,0x12345678", 0x12345fb7, 0x678f8f9b);
    }

    private static void constant(String text, int... words) {
        Bench b = new Bench().with(0, text);
        b.linked(4 * words.length);
        b.words(0, words);
    }

    private static void addresses() {
        Bench b = new Bench().with(0, "la x4,a", "la x4,b", "la x4,c", "la x4,d", "la x4,e", ".space 2007", "a: .byte 0",
                "b: .space 2047", "c: .byte 0", "d: .space 6000", ".space 6000").with(1, ".space 288", "e:", ".global e");
        b.linked(16384);
        b.placed(0, 6, 2047);
        b.placed(0, 7, 2048);
        b.placed(0, 8, 4095);
        b.placed(0, 9, 4096);
        b.placed(1, 1, 16384);
        b.words(0, 0x00000237, 0x7ff20213, 0x00001237, 0x80020213, 0x00001237, 0xfff20213, 0x00001237, 0x00020213, 0x00004237,
                0x00020213);
        Bench zero = new Bench().with(0, "a: la x4,a");
        zero.linked(8);
        zero.words(0, 0x00000237, 0x00020213);
    }

    private static void jumps() {
        Bench b = new Bench().with(0, "jal x6,a", ".space 2044", "a: jal x7,b", ".space 4092", "b: beq x9,x10,c", ".space 2044",
                "c: beq x31,x31,d", ".space 1020", "d: jal x5,c", "e: bge x7,x8,e");
        b.linked(9224);
        b.words(0, 0x0010036f);
        b.words(2048, 0x000013ef);
        b.words(6144, 0x00a480e3);
        b.words(8192, 0x41ff8063);
        b.words(9216, 0xc01ff2ef, 0x0083d063);
        Bench c = new Bench().with(0, "a: .space 2730", ".byte 0", "beq x31,x31,a", "blt x5,x6,b", ".space 2726", "b: .byte 0");
        c.linked(2736 + 2730 + 2);
        c.words(2732, 0xd5ff8a63, 0x2a62c5e3);
    }

    private static void data() {
        Bench b = new Bench();
        b.with(0, ".byte -1", ".byte -128", ".byte 127", ".byte 255", ".byte 0x80", ".word 0x12345678", "nop", ".byte 1", "nop");
        b.with(1, ".space 2", ".word -2", ".byte 7");
        b.linked(24 + 7);
        int[] want = {255, 128, 127, 255, 128, 0x78, 0x56, 0x34, 0x12, 0, 0, 0, 0x13, 0, 0, 0, 1, 0, 0, 0, 0x13, 0, 0, 0,
            0, 0, 254, 255, 255, 255, 7};
        for (int k = 0; k < want.length; k++) {
            int i = k;
            Bench.due("image(" + i + ")", want[i], () -> b.image(i));
        }
        Bench.thrown("image(31)", IndexOutOfBoundsException.class, () -> b.image(31));

        Bench end = new Bench().with(0, ".byte 9");
        end.linked(4);
        end.words(0, 9);
        Bench zeros = new Bench().with(0, ".space 6000", ".byte 5");
        zeros.linked(6004);
        for (int i : new int[] {0, 3, 4, 7, 8, 5999, 6001, 6003}) {
            Bench.due("image(" + i + ")", 0, () -> zeros.image(i));
        }
        Bench.due("image(6000)", 5, () -> zeros.image(6000));
    }

    private static void bounds() {
        Bench b = new Bench().with(0, "nop");
        Bench.thrown("image(-1) without an image", IllegalStateException.class, () -> b.image(-1));
        b.linked(4);
        for (int i : new int[] {-1, 4, 16384, Integer.MIN_VALUE, Integer.MAX_VALUE}) {
            Bench.thrown("image(" + i + ")", IndexOutOfBoundsException.class, () -> b.image(i));
        }
        b.clear(1);
        Bench.thrown("image(4) without an image", IllegalStateException.class, () -> b.image(4));
    }
}
