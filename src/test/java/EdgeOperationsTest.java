/** The edges that the document names under "Terms" for the operations: ranges, constants, addresses, data and where things stand. */
public final class EdgeOperationsTest {
    public static void main(String[] args) {
        threeRegisters();
        immediates();
        shifts();
        lui();
        loads();
        stores();
        jalr();
        namesAsOperands();
        shortOnes();
        rangeOfLi();
        liThatFits();
        liThatDoesNotFit();
        lowestTwelveBits();
        la();
        word();
        aByte();
        space();
        global();
        nextMultipleOf4();
        labelBeforeAnInstruction();
        labelAlone();
        Bench.end();
    }

    /** The last values that are right and the first that are wrong, in an operation with % for the number. */
    private static void range(String operation, long least, long most) {
        for (long right : new long[] {least, least + 1, 0, 1, most - 1, most}) {
            Bench.rightLines(operation.replace("%", Long.toString(right)));
        }
        for (long wrong : new long[] {least - 1, least - 2, most + 1, most + 2, least - 4294967296L, most + 4294967296L, -9999999999L,
            9999999999L}) {
            Bench.wrongLines(operation.replace("%", Long.toString(wrong)));
        }
        Bench.rightLines(operation.replace("%", "0x" + Long.toHexString(most)));
        if (most < 4294967295L) {
            Bench.wrongLines(operation.replace("%", "0x" + Long.toHexString(most + 1)), operation.replace("%", "0xffffffff"));
        }
    }

    private static void threeRegisters() {
        Bench.of("add sub sll slt sltu xor srl sra or and d,s,t.");
        for (String op : new String[] {"add", "sub", "sll", "slt", "sltu", "xor", "srl", "sra", "or", "and"}) {
            Bench.rightLines(op + " x31,x0,x31", op + " x0,x31,x0", op + " zero,ra,sp");
            Bench.wrongLines(op, op + " x1", op + " x1,x2", op + " x1,x2,", op + " x1,x2,x32", op + " x32,x1,x2", op + " x1,x32,x2",
                    op + " x1,x2,3", op + " x1,x2,x3,x4", op + " x1,x2,x3 x4", op + " x1,0(x2)", "q" + op + " x1,x2,x3",
                    op + "q x1,x2,x3");
        }
    }

    private static void immediates() {
        Bench.of("addi slti xori ori andi d,s,i (-2048 .. 2047); addiw likewise.");
        for (String op : new String[] {"addi", "slti", "xori", "ori", "andi", "addiw"}) {
            range(op + " x1,x2,%", -2048, 2047);
            Bench.wrongLines(op + " x1,x2", op + " x1,5", op + " 5,x1,x2", op + " x1,5,x2", op + " x1,x2,x3", op + " x1,x2,3,4", op + " x1,3(x2)");
        }
    }

    private static void shifts() {
        Bench.of("slli srli srai d,s,i (0 .. 63).");
        for (String op : new String[] {"slli", "srli", "srai"}) {
            range(op + " x1,x2,%", 0, 63);
            Bench.rightLines(op + " x1,x2,31", op + " x1,x2,32", op + " x1,x2,-0");
            Bench.wrongLines(op + " x1,x2,128", op + " x1,x2,1024", op + " x1,x2,x3", op + " x1,x2");
        }
    }

    private static void lui() {
        Bench.of("lui d,i (0 .. 1048575).");
        range("lui x1,%", 0, 1048575);
        Bench.wrongLines("lui x1", "lui 5", "lui x1,x2", "lui x1,x2,5", "lui x1,a");
    }

    private static void loads() {
        Bench.of("lb lw ld lbu d,i(s) (-2048 .. 2047).");
        for (String op : new String[] {"lb", "lw", "ld", "lbu"}) {
            withBrackets(op);
        }
    }

    /** No range is said for these; it is that of the loads, the most that twelve bits hold. */
    private static void stores() {
        Bench.of("sb sw sd t,i(s).");
        for (String op : new String[] {"sb", "sw", "sd"}) {
            withBrackets(op);
        }
    }

    /** Nor is one said here. */
    private static void jalr() {
        Bench.of("jalr d,i(s).");
        withBrackets("jalr");
    }

    private static void withBrackets(String op) {
        range(op + " x1,%(x2)", -2048, 2047);
        Bench.rightLines(op + " x31,0(x31)", op + " x0,-1(zero)");
        Bench.wrongLines(op, op + " x1", op + " x1,", op + " x1,4", op + " x1,x2", op + " x1,(x2)", op + " x1,4(x2", op + " x1,4 x2)",
                op + " x1,4 x2", op + " x1,4()", op + " x1,4(5)", op + " x1,4(a)", op + " x1,4(x32)", op + " x32,4(x1)", op + " x1,4((x2))",
                op + " x1,4(x2))", op + " x1,4(x2)(x3)", op + " x1,4(x2),x3", op + " x1,4,(x2)", op + " x1,4,x2", op + " x1,x2,4",
                op + " x1 4(x2)", op + " 4(x1),x2", op + " x1,a(x2)", op + " (x1),4(x2)", op + " x1,4)x2(", op + " x1,4:x2");
    }

    private static void namesAsOperands() {
        Bench.of("beq bne blt bge s,t,l. jal d,l.");
        for (String op : new String[] {"beq", "bne", "blt", "bge"}) {
            Bench.rightLines(op + " x0,x31,a", op + " x31,x0,zzzzzz", op + " ra,sp,zero");
            Bench.wrongLines(op + " x1,x2", op + " x1,a", op + " x1,x2,", op + " x1,x2,8", op + " x1,x2,x3", op + " x1,x2,a,b", op + " x1,2,a",
                    op + " a,x1,x2", op + " x1,x32,a", op + " x32,x1,a", op + " x1,x2,abcdefg", op + " x1,x2,0(a)");
        }
        Bench.rightLines("jal x0,a", "jal x31,zzzzzz", "jal ra,ra");
        Bench.wrongLines("jal", "jal a", "jal x1", "jal x1,", "jal x1,8", "jal x1,x2", "jal x32,a", "jal x1,abcdefg", "jal x1,a,b", "jal x1,x2,a");
    }

    private static void shortOnes() {
        Bench.of("nop is addi x0,x0,0; mv d,s addi d,s,0; ret jalr x0,0(x1); j l jal x0,l; call l jal x1,l;"
                + " beqz s,l beq s,x0,l; bnez s,l bne s,x0,l.");
        means("nop", "addi x0,x0,0");
        means("mv x0,x31", "addi x0,x31,0");
        means("mv x31,x0", "addi x31,x0,0");
        means("ret", "jalr x0,0(x1)");
        means("j a", "jal x0,a");
        means("call a", "jal x1,a");
        for (int k = 0; k <= 31; k++) {
            means("beqz x" + k + ",a", "beq x" + k + ",x0,a");
            means("bnez x" + k + ",a", "bne x" + k + ",x0,a");
        }
        Bench.wrongLines("nop x0", "nop 0", "mv x1", "mv x1,x2,x3", "mv x1,0", "mv x1,x32", "ret x1", "ret 0", "j", "j x1", "j x0,a", "j 8",
                "j a,b", "call", "call x1", "call x1,a", "call 8", "beqz x1", "beqz a", "beqz x1,x0,a", "beqz x1,8", "bnez x1", "bnez a",
                "bnez x1,x0,a", "bnez x32,a");
    }

    private static void means(String text, String meant) {
        Bench b = new Bench().with(0, text, meant, "a:");
        // Each stands once where the other does, so that the ways are the same.
        Bench c = new Bench().with(0, meant, text, "a:");
        b.linked(8);
        c.linked(8);
        Bench.same(text + " in front", Integer.toHexString(c.wordAt(0)), Integer.toHexString(b.wordAt(0)));
        Bench.same(text + " behind", Integer.toHexString(b.wordAt(4)), Integer.toHexString(c.wordAt(4)));
    }

    private static void rangeOfLi() {
        Bench.of("li d,i (-2147483648 .. 2147483647)");
        range("li x1,%", -2147483648L, 2147483647);
        Bench.wrongLines("li x1", "li 5", "li x1,x2", "li x1,a", "li x1,5,6", "li x32,5");
    }

    /** The lines of li make just these instructions. */
    private static void makes(String text, String... instructions) {
        Bench b = new Bench().with(0, text);
        b.linked(4 * instructions.length);
        for (int k = 0; k < instructions.length; k++) {
            Bench.same(text + ", instruction " + k, instructions[k], b.shown(b.wordAt(4 * k)));
        }
    }

    private static void liThatFits() {
        Bench.of("addi d,x0,i when that fits");
        for (int i : new int[] {-2048, -2047, -1, 0, 1, 2046, 2047}) {
            makes("li x31," + i, "addi x31,x0," + i);
        }
        makes("li x0,0", "addi x0,x0,0");
        makes("li x1,0x7ff", "addi x1,x0,2047");
        makes("li x1,-2049", "lui x1,1048575", "addiw x1,x1,2047");
        makes("li x1,2048", "lui x1,1", "addiw x1,x1,-2048");
    }

    private static void liThatDoesNotFit() {
        Bench.of("otherwise lui d,h and, when the lowest twelve bits of i are not 0, addiw d,d,w, with w these as a number -2048 .. 2047,"
                + " and h bits 12 to 31 of i - w.");
        makes("li x1,4095", "lui x1,1", "addiw x1,x1,-1");
        makes("li x1,4097", "lui x1,1", "addiw x1,x1,1");
        makes("li x1,6143", "lui x1,1", "addiw x1,x1,2047");
        makes("li x1,6144", "lui x1,2", "addiw x1,x1,-2048");
        makes("li x1,-4095", "lui x1,1048575", "addiw x1,x1,1");
        makes("li x1,-4097", "lui x1,1048575", "addiw x1,x1,-1");
        makes("li x1,-6144", "lui x1,1048575", "addiw x1,x1,-2048");
        makes("li x1,-6145", "lui x1,1048574", "addiw x1,x1,2047");
        makes("li x31,305419896", "lui x31,74565", "addiw x31,x31,1656");
        // Here i - w is beyond the largest number.
        makes("li x1,0x7ffff7ff", "lui x1,524287", "addiw x1,x1,2047");
        makes("li x1,0x7ffff800", "lui x1,524288", "addiw x1,x1,-2048");
        makes("li x1,0x7fffffff", "lui x1,524288", "addiw x1,x1,-1");
        makes("li x1,-2147483647", "lui x1,524288", "addiw x1,x1,1");
        makes("li x1,-2147481601", "lui x1,524288", "addiw x1,x1,2047");
        makes("li x1,-2147481600", "lui x1,524289", "addiw x1,x1,-2048");
        makes("li x0,5000", "lui x0,1", "addiw x0,x0,904");
    }

    private static void lowestTwelveBits() {
        Bench.of("when the lowest twelve bits of i are not 0");
        makes("li x1,4096", "lui x1,1");
        makes("li x1,-4096", "lui x1,1048575");
        makes("li x1,8192", "lui x1,2");
        makes("li x1,0x7ffff000", "lui x1,524287");
        makes("li x1,-2147483648", "lui x1,524288");
        makes("li x1,-2147479552", "lui x1,524289");
        // What comes next stands right behind the one instruction or the two.
        Bench b = new Bench().with(0, "li x1,4096", "a: li x1,4097", "b: li x1,2047", "c:");
        b.linked(16);
        b.placed(0, 1, 4);
        b.placed(0, 2, 12);
        b.placed(0, 3, 16);
    }

    private static void la() {
        Bench.of("la d,l: lui d,h and addi d,d,w of the address of l likewise (always both).");
        int[] addresses = {0, 1, 2047, 2048, 4095, 4096, 4097, 6143, 6144, 8192, 10239, 10240, 16376};
        int[] high = {0, 0, 0, 1, 1, 1, 1, 1, 2, 2, 2, 3, 4};
        int[] low = {0, 1, 2047, -2048, -1, 0, 1, 2047, -2048, 0, 2047, -2048, -8};
        for (int k = 0; k < addresses.length; k++) {
            Bench b = new Bench();
            int rest = addresses[k];
            while (rest > 6000) {
                b.with(0, ".space 6000");
                rest -= 6000;
            }
            b.with(0, ".space " + rest, "a:", "la x31,a");
            int at = addresses[k] + 3 & ~3;
            b.linked(at + 8);
            Bench.same("la of " + addresses[k], "lui x31," + high[k], b.shown(b.wordAt(at)));
            Bench.same("la of " + addresses[k], "addi x31,x31," + low[k], b.shown(b.wordAt(at + 4)));
        }
        Bench last = new Bench().with(0, "la x0,a", ".space 6000", ".space 6000", ".space 4376", "a:");
        last.linked(16384);
        Bench.same("la of 16384", "lui x0,4", last.shown(last.wordAt(0)));
        Bench.same("la of 16384", "addi x0,x0,0", last.shown(last.wordAt(4)));
        Bench.wrongLines("la", "la a", "la x1", "la x1,5", "la x1,x2", "la x1,a,b", "la x1,abcdefg", "la x32,a", "la 5,a");
    }

    private static void word() {
        Bench.of(".word i (-2147483648 .. 4294967295) puts four bytes, the lowest first");
        range(".word %", -2147483648L, 4294967295L);
        Bench b = new Bench().with(1, ".word 0x04030201", ".word -2147483648", ".word 4294967295", ".word 2147483648", ".word -1", ".byte 9",
                ".word 0x44332211");
        b.linked(25);
        b.bytes(0, 1, 2, 3, 4, 0, 0, 0, 128, 255, 255, 255, 255, 0, 0, 0, 128, 255, 255, 255, 255, 9, 0x11, 0x22, 0x33, 0x44);
        Bench.wrongLines(".word", ".word 1,2", ".word a", ".word x1", "word 1", "..word 1", ".words 1");
    }

    private static void aByte() {
        Bench.of(".byte i (-128 .. 255) one");
        range(".byte %", -128, 255);
        Bench b = new Bench().with(1, ".byte -128", ".byte -127", ".byte -1", ".byte 0", ".byte 127", ".byte 128", ".byte 255");
        b.linked(7);
        b.bytes(0, 128, 129, 255, 0, 127, 128, 255);
        Bench.thrown("image(7)", IndexOutOfBoundsException.class, () -> b.image(7));
        Bench.wrongLines(".byte", ".byte 1,2", ".byte a", "byte 1");
    }

    private static void space() {
        Bench.of(".space i (0 .. 6000) so many zeros");
        range(".space %", 0, 6000);
        Bench b = new Bench().with(1, ".byte 1", ".space 0", ".byte 2", ".space 1", ".byte 3", ".space 6000", ".byte 4");
        b.linked(6005);
        b.bytes(0, 1, 2, 0, 3, 0);
        b.bytes(6003, 0, 4);
        for (int at : new int[] {5, 6, 7, 8, 9, 10, 11, 12, 3000, 6000, 6001, 6002}) {
            b.bytes(at, 0);
        }
        b.placed(1, 1, 1);
        b.placed(1, 2, 1);
        b.placed(1, 5, 4);
        b.placed(1, 6, 6004);
        Bench.wrongLines(".space", ".space 1,2", ".space a", "space 1", ".space -0x1");
    }

    private static void global() {
        Bench.of(".global l: the module gives l away.");
        for (int module = 0; module < 2; module++) {
            new Bench().with(module, "a:", ".global a").with(1 - module, "j a").linked(4);
            new Bench().with(module, ".global a", "a:").with(1 - module, "j a").linked(4);
            new Bench().with(module, "a: .global a").with(1 - module, "j a").linked(4);
            new Bench().with(module, "a: .global a", ".global a", ".global a").with(1 - module, "j a").linked(4);
            new Bench().with(module, "a:").with(1 - module, "j a").linkThrows(java.util.NoSuchElementException.class);
            new Bench().with(module, "a: .byte 1", "b: .global a", ".byte 2").linked(module == 0 ? 4 : 2);
        }
        Bench.wrongLines(".global", ".global a,b", ".global 5", "global a", ".globl a", ".global abcdefg");
    }

    private static void nextMultipleOf4() {
        Bench.of("An operation that puts an instruction does so at the next address that is a multiple of 4 (with zeros before it)");
        int[] at = {0, 4, 4, 4, 4, 8};
        String[] ones = {"add x1,x2,x3", "sub x1,x2,x3", "sll x1,x2,x3", "slt x1,x2,x3", "sltu x1,x2,x3", "xor x1,x2,x3", "srl x1,x2,x3",
            "sra x1,x2,x3", "or x1,x2,x3", "and x1,x2,x3", "addi x1,x2,3", "slti x1,x2,3", "xori x1,x2,3", "ori x1,x2,3", "andi x1,x2,3",
            "addiw x1,x2,3", "slli x1,x2,3", "srli x1,x2,3", "srai x1,x2,3", "lui x1,3", "lb x1,3(x2)", "lw x1,3(x2)", "ld x1,3(x2)",
            "lbu x1,3(x2)", "sb x1,3(x2)", "sw x1,3(x2)", "sd x1,3(x2)", "beq x1,x2,a", "bne x1,x2,a", "blt x1,x2,a", "bge x1,x2,a",
            "jal x1,a", "jalr x1,3(x2)", "nop", "mv x1,x2", "ret", "j a", "call a", "beqz x1,a", "bnez x1,a", "li x1,3", "li x1,4096",
            "li x1,5000", "la x1,a"};
        for (String one : ones) {
            int size = one.equals("li x1,5000") || one.startsWith("la ") ? 8 : 4;
            for (int before = 0; before < at.length; before++) {
                Bench b = new Bench();
                for (int k = 0; k < before; k++) {
                    b.with(1, ".byte 255");
                }
                b.with(1, "a: " + one, ".byte 254");
                b.linked(at[before] + size + 1);
                b.placed(1, before, at[before]);
                for (int k = 0; k < at[before]; k++) {
                    b.bytes(k, k < before ? 255 : 0);
                }
                b.bytes(at[before] + size, 254);
            }
        }
        for (String other : new String[] {".word 3", ".byte 3", ".space 3", ".space 0", "b:", ".global a", "", "#"}) {
            for (int before = 0; before < at.length; before++) {
                Bench b = new Bench().with(0, ".space " + before, other, "a:");
                b.link();
                b.placed(0, 1, before);
            }
        }
    }

    private static void labelBeforeAnInstruction() {
        Bench.of("a label in front of it in its line stands for that.");
        for (int before = 0; before <= 5; before++) {
            Bench b = new Bench().with(1, ".space " + before, "a: nop", "la x1,a");
            int at = before + 3 & ~3;
            b.linked(at + 12);
            b.placed(1, 1, at);
            Bench.same("la of a with " + before + " before it", "addi x1,x1," + at, b.shown(b.wordAt(at + 8)));
        }
    }

    private static void labelAlone() {
        Bench.of("(A label alone stands for where things stand.)");
        for (int before = 0; before <= 5; before++) {
            for (String alone : new String[] {"a:", "a: # nop", "a: .global a", "a: .space 0", "a: .byte 1", "a: .word 1"}) {
                Bench b = new Bench().with(1, ".space " + before, alone, "nop", "la x1,a");
                int size = alone.endsWith("byte 1") ? 1 : alone.endsWith("word 1") ? 4 : 0;
                int at = before + size + 3 & ~3;
                b.linked(at + 12);
                b.placed(1, 1, before);
                b.placed(1, 2, at);
                Bench.same("la of '" + alone + "' with " + before + " before it", "addi x1,x1," + before, b.shown(b.wordAt(at + 8)));
            }
        }
    }
}
