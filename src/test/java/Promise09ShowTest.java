public final class Promise09ShowTest {
    public static void main(String[] args) {
        written();
        notWritten();
        keepsTheRest();
        thereAndBack();
        Bench.end();
    }

    private static void written() {
        shows(0x003100b3, "add x1,x2,x3");
        shows(0x41df0fb3, "sub x31,x30,x29");
        shows(0x00629233, "sll x4,x5,x6");
        shows(0x009423b3, "slt x7,x8,x9");
        shows(0x00c5b533, "sltu x10,x11,x12");
        shows(0x00f746b3, "xor x13,x14,x15");
        shows(0x0128d833, "srl x16,x17,x18");
        shows(0x415a59b3, "sra x19,x20,x21");
        shows(0x018beb33, "or x22,x23,x24");
        shows(0x01bd7cb3, "and x25,x26,x27");
        shows(0x80010093, "addi x1,x2,-2048");
        shows(0x7ff22193, "slti x3,x4,2047");
        shows(0xfff34293, "xori x5,x6,-1");
        shows(0x55546393, "ori x7,x8,1365");
        shows(0x00057493, "andi x9,x10,0");
        shows(0xaaa6059b, "addiw x11,x12,-1366");
        shows(0x03f71693, "slli x13,x14,63");
        shows(0x02085793, "srli x15,x16,32");
        shows(0x40195893, "srai x17,x18,1");
        shows(0xfffff9b7, "lui x19,1048575");
        shows(0x80000037, "lui x0,524288");
        shows(0x00001a37, "lui x20,1");
        shows(0x80010083, "lb x1,-2048(x2)");
        shows(0x7ff22183, "lw x3,2047(x4)");
        shows(0x00833283, "ld x5,8(x6)");
        shows(0xfff44383, "lbu x7,-1(x8)");
        shows(0x80950023, "sb x9,-2048(x10)");
        shows(0x7eb62fa3, "sw x11,2047(x12)");
        shows(0xfed730a3, "sd x13,-31(x14)");
        shows(0xffc807e7, "jalr x15,-4(x16)");
        shows(0x7e208fe3, "beq x1,x2,4094");
        shows(0x80419063, "bne x3,x4,-4096");
        shows(0x2a62c5e3, "blt x5,x6,2730");
        shows(0xfe83dfe3, "bge x7,x8,-2");
        shows(0x00a480e3, "beq x9,x10,2048");
        shows(0x40000063, "beq x0,x0,1024");
        shows(0xd5ff8a63, "beq x31,x31,-2732");
        shows(0x7ffff0ef, "jal x1,1048574");
        shows(0x80000fef, "jal x31,-1048576");
        shows(0x2abaa06f, "jal x0,699050");
        shows(0xfffff2ef, "jal x5,-2");
        shows(0x0010036f, "jal x6,2048");
        shows(0x000013ef, "jal x7,4096");
        // None of the short ones.
        shows(0x00000013, "addi x0,x0,0");
        shows(0x000f8f13, "addi x30,x31,0");
        shows(0x00008067, "jalr x0,0(x1)");
        shows(0x0000006f, "jal x0,0");
        shows(0x008000ef, "jal x1,8");
        shows(0x00048263, "beq x9,x0,4");
        shows(0x00051063, "bne x10,x0,0");
    }

    private static void shows(int word, String want) {
        Bench b = new Bench();
        Bench.due("show of '" + want + "'", want.length(), () -> b.show(word));
        Bench.same("show(" + Integer.toHexString(word) + ")", want, b.shown(word));
    }

    private static void notWritten() {
        int[] none = {0, -1, 0x33 | 1 << 25, 0x33 | 1 << 31, 0x33 | 3 << 30, 0x40001033, 0x40002033, 0x40003033, 0x40004033,
            0x40006033, 0x40007033, 0x02000033, 0x04000033, 0x08000033, 0x10000033, 0x20000033, 0x3013, 0x04001013, 0x40001013,
            0x80001013, 0x04005013, 0x08005013, 0x10005013, 0x20005013, 0x80005013, 0xc0005013, 0x44005013, 0x101b, 0x501b,
            0x1003, 0x5003, 0x6003, 0x7003, 0x1067, 0x2067, 0x7067, 0x1023, 0x4023, 0x5023, 0x7023, 0x2063, 0x3063, 0x6063,
            0x7063, 0x17, 0x73, 0x0f, 0x3b, 0x32, 0x31, 0x36, 0x6e, 0x66, 0x12, 0x02, 0x22, 0x62, 0x1a, 1};
        for (int word : none) {
            Bench b = new Bench();
            b.show(0x13);
            Bench.thrown("show(" + Integer.toHexString(word) + ")", IllegalArgumentException.class, () -> b.show(word));
            Bench.thrown("letter(0) after it", IndexOutOfBoundsException.class, () -> b.letter(0));
        }
    }

    private static void keepsTheRest() {
        Bench b = new Bench().with(0, "nop");
        b.linked(4);
        b.type("no");
        b.show(0x13);
        Bench.thrown("show(0)", IllegalArgumentException.class, () -> b.show(0));
        b.words(0, 0x13);
        Bench.due("the line that is typed", 1, () -> b.add(1, "p"));
    }

    /** Every word that is written out makes the same word again, and the others are no operation's. */
    private static void thereAndBack() {
        long seed = 20261115;
        int there = 0;
        int[] opcodes = {51, 19, 27, 55, 3, 35, 103};
        for (int k = 0; k < 20000; k++) {
            seed = seed * 6364136223846793005L + 1442695040888963407L;
            int word = (int) (seed >>> 32) & ~127 | opcodes[k % opcodes.length];
            if (k % 3 == 0) {
                word &= 0x41ffffff;
            }
            Bench b = new Bench();
            String text;
            try {
                text = b.shown(word);
            } catch (IllegalArgumentException e) {
                continue;
            }
            there++;
            b.add(0, text);
            b.link();
            Bench.same(text, Integer.toHexString(word), Integer.toHexString(b.wordAt(0)));
        }
        Bench.same("many were written out", "true", Boolean.toString(there > 5000));
    }
}
