public final class Promise03LineTest {
    public static void main(String[] args) {
        blanks();
        labels();
        registers();
        numbers();
        names();
        operands();
        endsAtTheEnd();
        ranges();
        refusals();
        image();
        Bench.end();
    }

    private static void blanks() {
        Bench b = new Bench();
        b.with(0, "", "      ", "#", "  # a: b, (c) ~", "nop#x", "  nop  ", "add   x1 , x2 ,x3 #", "lb x1 , 4 ( x2 )",
                "lb x1,4(x2)#", "lb x1,4(x2)   ", "lb x1,4(x2) # x", "a :nop", "  b  :  ", "c:# c", "sd x1,-8(sp)", ".byte 1 # one");
        Bench.due("lines(0)", 16, () -> b.lines(0));
        Bench.wrongLines("addx1,x2,x3", "add x1,x2,x 3", "no p", "li x1,- 5", "li x1,0x 5", ".word-5", ". word 5", ".word5",
                "a b: nop", "add x1 x2 x3", "mv x1 x2", "a:nop nop", "nop nop", "! nop", "nop !", "NOP");
    }

    private static void labels() {
        Bench b = new Bench();
        b.with(0, "a:", "abcdef: nop", "nop: nop", "zero:", "x: .byte 1", "z:.global z", "li: li x1,5", "word:");
        Bench.thrown("a label twice", IllegalStateException.class, () -> b.add(0, "a: nop"));
        Bench.thrown("a label twice, alone", IllegalStateException.class, () -> b.add(0, "word:"));
        Bench.thrown("a wrong line with a label twice", IllegalArgumentException.class, () -> b.add(0, "a: nop nop"));
        Bench.due("lines(0)", 8, () -> b.lines(0));
        b.with(1, "a: nop", "ab:", "ba:", "aa:", "aab:");
        for (String text : new String[] {":", ": nop", "abcdefg:", "a1:", "1:", "a::", "a: b:", "a: b: nop", "A:", ".a:",
            "a.b:", "-:", "(a):", "a,b:", "nop a:", "nop:a", "#a: nop :"}) {
            if (text.startsWith("#")) {
                b.with(1, text);
            } else {
                b.refused(text);
            }
        }
        Bench alike = new Bench();
        for (char c = 'a'; c <= 'z'; c++) {
            alike.with((c - 'a') / 13, c + "bcdef:");
        }
        // What a refused line would have brought is not there.
        b.refused("new: foo");
        b.with(0, "new: nop");
    }

    private static void registers() {
        Bench b = new Bench();
        b.with(0, "add x0,x9,x10", "add x31,x19,x20", "add zero,ra,sp", "add sp,x29,x30");
        b.linked(16);
        b.words(0, 0x00a48033, 0x01498fb3, 0x00208033, 0x01ee8133);
        for (String r : new String[] {"x32", "x00", "x01", "x007", "x010", "x031", "x", "x-0", "x-1", "X1", "x0x1", "y1", "xa", "x1a", "zer",
            "zeroo", "r", "s", "spp", "gp", "t0", "1", "", "x99", "x100", "x310", "x 1"}) {
            Bench.wrongLines("add " + r + ",x1,x1", "add x1," + r + ",x1", "add x1,x1," + r, "lb x1,0(" + r + ")");
        }
    }

    private static void numbers() {
        Bench b = new Bench();
        b.with(0, ".word 0", ".word -0", ".word 0000000012", ".word -0000000012", ".word 0x0", ".word 0xffffffff",
                ".word 0x0000abcd", ".word 0xa", ".word 4294967295", ".word -2147483648", ".word 00", ".word 0x9f0e");
        b.linked(48);
        b.words(0, 0, 0, 12, -12, 0, -1, 0xabcd, 10, -1, 0x80000000, 0, 0x9f0e);
        for (String i : new String[] {"", "-", "--1", "+1", "0x", "-0x1", "0X1", "0xA", "0xg", "0x123456789", "0x000000001", "00000000001",
            "-00000000001", "-12345678901", "1a", "a", "1.0", "x1", "1-", "0x-1", "00x1", "1 2", "'a'", "4294967296", "-2147483649",
            "9999999999", "-9999999999"}) {
            Bench.wrongLines(".word " + i);
        }
    }

    private static void names() {
        Bench b = new Bench();
        b.with(0, "j a", "j abcdef", "call zero", "jal ra,x", "beq x1,x2,sp", "la x1,nop", ".global la", "bnez x1,z");
        for (String l : new String[] {"", "abcdefg", "a1", "1", "A", "a.b", "-a", "a b", "a:", "(a)", "0", "4", "x1", "a,b"}) {
            Bench.wrongLines("j " + l, "jal x1," + l, "beq x1,x2," + l, "la x1," + l, ".global " + l);
        }
    }

    private static void operands() {
        Bench.wrongLines("add", "add x1", "add x1,x2", "add x1,x2,", "add x1,x2,x3,", "add x1,x2,x3,x4",
                "add ,x1,x2", "add x1,,x2", "add x1,x2,3", "add x1,x2,(x3)", "addi x1,x2,x3", "addi x1,5,x2", "addi x1,x2",
                "addi x1,x2,a", "lui x1", "lui x1,x2", "lui 1", "lb x1,x2", "lb x1,4", "lb x1,4(x2", "lb x1,4 x2)", "lb x1,(x2)",
                "lb x1,4(x2))", "lb x1,4((x2))", "lb x1,4(x2)x3", "lb x1,4(x2),", "lb x1,4,(x2)", "lb x1,x2(4)", "lb x1,a(x2)",
                "sb x1,4", "sb 4(x1),x2", "beq x1,x2", "beq x1,a", "beq x1,x2,8", "beq a,x1,x2", "jal a", "jal x1", "jal x1,8",
                "jalr x1", "jalr x1,x2,0", "jalr x1,x2", "nop x1", "nop,", "mv x1", "mv x1,5", "mv x1,x2,x3", "ret x1", "ret 0",
                "j", "j x1,a", "call", "call x1,a", "beqz x1", "beqz a", "beqz x1,x2,a", "bnez x1,x2", "li x1", "li x1,a",
                "li 5", "li x1,5,", "la x1", "la a", "la x1,5", ".word", ".word a", ".word 1,2", ".byte", ".byte 1 2", ".space",
                ".space x1", ".global", ".global a,b", ".global a b", "word 1", ".words 1", "..word 1", "addw x1,x2,x3", "subi x1,x2,3",
                "foo", "x1", "5", ",", "(", ")", "a,", ".", "-", "lh x1,0(x2)", "bltu x1,x2,a", "auipc x1,0", "bgez x1,a");
    }

    /** Lines of all 28 characters that end where an operand should stand. */
    private static void endsAtTheEnd() {
        for (String text : new String[] {"add x1,x2,", "addi x1,x2,", "lb x1,", "lb x1,4", "lb x1,4(", "lb x1,4(x2", "j ", "jal x1,",
            "li x1,-", "li x1,0x", "li x1,", "add x1,x2,x", ".word", "a", "a: b"}) {
            Bench.wrongLines(" ".repeat(28 - text.length()) + text, text + " ".repeat(28 - text.length()));
        }
        Bench.rightLines(" ".repeat(28), " ".repeat(27) + "#", " ".repeat(26) + "a:", " ".repeat(25) + "ret", "lb x1,4(x2" + " ".repeat(17) + ")",
                " ".repeat(21) + "li x1,0");
    }

    private static void ranges() {
        for (String op : new String[] {"addi x1,x2,%", "slti x1,x2,%", "xori x1,x2,%", "ori x1,x2,%", "andi x1,x2,%",
            "addiw x1,x2,%", "lb x1,%(x2)", "lw x1,%(x2)", "ld x1,%(x2)", "lbu x1,%(x2)", "sb x1,%(x2)", "sw x1,%(x2)",
            "sd x1,%(x2)", "jalr x1,%(x2)"}) {
            range(op, -2048, 2047);
            Bench.wrongLines(op.replace("%", "0xfff"));
        }
        for (String op : new String[] {"slli x1,x2,%", "srli x1,x2,%", "srai x1,x2,%"}) {
            range(op, 0, 63);
        }
        range("lui x1,%", 0, 1048575);
        range("li x1,%", -2147483648L, 2147483647);
        Bench.wrongLines("li x1,0xffffffff");
        range(".word %", -2147483648L, 4294967295L);
        range(".byte %", -128, 255);
        range(".space %", 0, 6000);
    }

    private static void range(String op, long least, long most) {
        Bench.rightLines(op.replace("%", Long.toString(least)), op.replace("%", Long.toString(most)), op.replace("%", "0"));
        Bench.wrongLines(op.replace("%", Long.toString(least - 1)), op.replace("%", Long.toString(most + 1)));
    }

    private static void refusals() {
        Bench b = new Bench();
        for (int module : new int[] {-1, 2, Integer.MIN_VALUE, Integer.MAX_VALUE}) {
            b.type("foo");
            Bench.thrown("line(" + module + ")", IllegalArgumentException.class, () -> b.line(module));
            Bench.due("the line is empty after line(" + module + ")", b.lines(1) + 1, () -> b.line(1));
        }
        b.with(0, "a: nop");
        for (int k = 1; k < 16; k++) {
            b.with(0, "nop");
        }
        Bench.thrown("a line too many", IllegalStateException.class, () -> b.add(0, "nop"));
        Bench.thrown("an empty line too many", IllegalStateException.class, () -> b.line(0));
        Bench.thrown("a line and a label too many", IllegalStateException.class, () -> b.add(0, "a: nop"));
        Bench.thrown("a wrong line too many", IllegalArgumentException.class, () -> b.add(0, "foo"));
        Bench.due("lines(0)", 16, () -> b.lines(0));
        // The line that was refused last is gone: this one is not 'foonop'.
        Bench.due("a line for the other module", b.lines(1) + 1, () -> b.add(1, "a: nop"));
        b.type("foo");
        Bench.thrown("a wrong line", IllegalArgumentException.class, () -> b.line(1));
        b.type("a:");
        Bench.thrown("a label twice", IllegalStateException.class, () -> b.line(1));
        Bench.due("the line is empty after both", b.lines(1) + 1, () -> b.line(1));
    }

    private static void image() {
        Bench b = new Bench();
        b.with(0, "a: nop");
        b.linked(4);
        b.refused("foo");
        Bench.thrown("a label twice", IllegalStateException.class, () -> b.add(0, "a:"));
        Bench.thrown("no such module", IllegalArgumentException.class, () -> b.add(2, "nop"));
        b.words(0, 0x13);
        b.type("nop");
        b.words(0, 0x13);
        Bench.due("line(1)", 1, () -> b.line(1));
        b.noImage();
        b.linked(8);
        Bench.due("an empty line too", 2, () -> b.line(1));
        b.noImage();
    }
}
