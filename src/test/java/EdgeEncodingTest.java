/** The edges of the encoding under "Terms": every field at its ends, in the image and written out again. */
public final class EdgeEncodingTest {
    private static final int[] REGISTERS = {0, 1, 15, 16, 31};
    private static final int[] TWELVE_BITS = {-2048, -2047, -1025, -1024, -33, -32, -31, -1, 0, 1, 15, 16, 31, 32, 33, 63, 64, 1023, 1024, 2046,
        2047};

    private static Bench shower = new Bench();

    public static void main(String[] args) {
        lowestByteFirst();
        registersAndQuestions();
        immediates();
        shifts();
        addiw();
        lui();
        loadsAndJalr();
        stores();
        branches();
        jumps();
        noOperation();
        Bench.end();
    }

    /** An object with room for one more text to be written out. */
    private static Bench shower() {
        if (shower.calls() > 450) {
            shower = new Bench();
        }
        return shower;
    }

    /** The line puts the word, and the word is written out as the same text. */
    private static void thereAndBack(String text, int word) {
        Bench b = new Bench();
        Bench.due("line(0) of '" + text + "'", 1, () -> b.add(0, text));
        b.linked(4);
        b.words(0, word);
        Bench.same("show(" + Integer.toHexString(word) + ")", text, shower().shown(word));
    }

    private static void lowestByteFirst() {
        Bench.of("of 32 bits, the lowest byte first");
        Bench b = new Bench().with(0, "addi x1,x2,-1366", "lui x31,0x12345");
        b.linked(8);
        b.bytes(0, 0x93, 0x00, 0xa1, 0xaa, 0xb7, 0x5f, 0x34, 0x12);
    }

    private static void registersAndQuestions() {
        Bench.of("r d at bit 7, f at bit 12, s at 15, t at 20. add 51, f 0; sub likewise with bit 30; sll f 1, slt 2, sltu 3, xor 4, srl 5,"
                + " sra 5 with bit 30, or 6, and 7.");
        String[] ops = {"add", "sll", "slt", "sltu", "xor", "srl", "or", "and", "sub", "sra"};
        int[] codes = {51, 51 | 1 << 12, 51 | 2 << 12, 51 | 3 << 12, 51 | 4 << 12, 51 | 5 << 12, 51 | 6 << 12, 51 | 7 << 12, 51 | 1 << 30,
            51 | 5 << 12 | 1 << 30};
        for (int k = 0; k < ops.length; k++) {
            for (int d : REGISTERS) {
                for (int s : REGISTERS) {
                    for (int t : REGISTERS) {
                        thereAndBack(ops[k] + " x" + d + ",x" + s + ",x" + t, codes[k] | d << 7 | s << 15 | t << 20);
                    }
                }
            }
        }
    }

    private static void immediates() {
        Bench.of("addi 19, f 0, slti 2, xori 4, ori 6, andi 7, the number at bit 20 (12 bits)");
        String[] ops = {"addi", "slti", "xori", "ori", "andi"};
        int[] fs = {0, 2, 4, 6, 7};
        for (int k = 0; k < ops.length; k++) {
            for (int r : REGISTERS) {
                for (int i : TWELVE_BITS) {
                    thereAndBack(ops[k] + " x" + r + ",x" + (31 - r) + "," + i, 19 | r << 7 | fs[k] << 12 | (31 - r) << 15 | i << 20);
                }
            }
        }
    }

    private static void shifts() {
        Bench.of("slli f 1, srli 5, srai 5 with bit 30, the number at bit 20 (6 bits).");
        String[] ops = {"slli", "srli", "srai"};
        int[] codes = {19 | 1 << 12, 19 | 5 << 12, 19 | 5 << 12 | 1 << 30};
        for (int k = 0; k < ops.length; k++) {
            for (int i = 0; i <= 63; i++) {
                thereAndBack(ops[k] + " x31,x0," + i, codes[k] | 31 << 7 | i << 20);
                thereAndBack(ops[k] + " x0,x31," + i, codes[k] | 31 << 15 | i << 20);
            }
        }
    }

    private static void addiw() {
        Bench.of("addiw 27, f 0.");
        for (int i : TWELVE_BITS) {
            thereAndBack("addiw x0,x31," + i, 27 | 31 << 15 | i << 20);
            thereAndBack("addiw x31,x0," + i, 27 | 31 << 7 | i << 20);
        }
    }

    private static void lui() {
        Bench.of("lui 55, the number at bit 12.");
        for (int i : new int[] {0, 1, 2, 255, 256, 4095, 4096, 65535, 65536, 524287, 524288, 1048574, 1048575}) {
            thereAndBack("lui x0," + i, 55 | i << 12);
            thereAndBack("lui x31," + i, 55 | 31 << 7 | i << 12);
        }
    }

    private static void loadsAndJalr() {
        Bench.of("Loads 3: lb f 0, lw 2, ld 3, lbu 4; jalr 103, f 0: the number at bit 20.");
        String[] ops = {"lb", "lw", "ld", "lbu", "jalr"};
        int[] codes = {3, 3 | 2 << 12, 3 | 3 << 12, 3 | 4 << 12, 103};
        for (int k = 0; k < ops.length; k++) {
            for (int r : REGISTERS) {
                for (int i : TWELVE_BITS) {
                    thereAndBack(ops[k] + " x" + r + "," + i + "(x" + (31 - r) + ")", codes[k] | r << 7 | (31 - r) << 15 | i << 20);
                }
            }
        }
    }

    private static void stores() {
        Bench.of("Stores 35: sb f 0, sw 2, sd 3: the lowest five bits of the number at bit 7, the others at bit 25.");
        String[] ops = {"sb", "sw", "sd"};
        int[] fs = {0, 2, 3};
        for (int k = 0; k < ops.length; k++) {
            for (int r : REGISTERS) {
                for (int i : TWELVE_BITS) {
                    thereAndBack(ops[k] + " x" + r + "," + i + "(x" + (31 - r) + ")",
                            35 | (i & 31) << 7 | fs[k] << 12 | (31 - r) << 15 | r << 20 | (i >> 5) << 25);
                }
            }
        }
    }

    private static int bits(int number, int first, int last) {
        return number >> first & (1 << last - first + 1) - 1;
    }

    private static int branch(int f, int s, int t, int w) {
        return 99 | f << 12 | s << 15 | t << 20 | bits(w, 1, 4) << 8 | bits(w, 5, 10) << 25 | bits(w, 11, 11) << 7 | bits(w, 12, 12) << 31;
    }

    private static int jump(int d, int w) {
        return 111 | d << 7 | bits(w, 1, 10) << 21 | bits(w, 11, 11) << 20 | bits(w, 12, 19) << 12 | bits(w, 20, 20) << 31;
    }

    private static void branches() {
        Bench.of("Branches 99: beq f 0, bne 1, blt 4, bge 5; with the way w (the address of l less its own):"
                + " bits 1 to 4 of w at bit 8, 5 to 10 at 25, 11 at 7, 12 at 31.");
        String[] ops = {"beq", "bne", "blt", "bge"};
        int[] fs = {0, 1, 4, 5};
        for (int w = -4096; w <= 4094; w += 2) {
            int k = (w >> 1) & 3;
            int word = branch(fs[k], 31, 0, w);
            Bench.same("show(" + Integer.toHexString(word) + ")", ops[k] + " x31,x0," + w, shower().shown(word));
            // No label stands in the middle of an instruction.
            if (w != 2) {
                wayPuts(ops[k] + " x31,x0,a", w, word);
            }
        }
        for (int k = 0; k < ops.length; k++) {
            for (int r : REGISTERS) {
                for (int w : new int[] {-4096, -2048, -32, -4, 0, 4, 30, 32, 2046, 2048, 4094}) {
                    wayPuts(ops[k] + " x" + r + ",x" + (31 - r) + ",a", w, branch(fs[k], r, 31 - r, w));
                }
            }
        }
    }

    /** The line, with the way w to the label a, puts the word and no other. */
    private static void wayPuts(String text, int w, int word) {
        Bench b = new Bench();
        int at = 0;
        if (w >= 4) {
            b.with(1, text);
            spaces(b, w - 4);
            b.with(1, "a:");
        } else if (w == 0) {
            b.with(1, "a: " + text);
        } else {
            // The instruction stands at a multiple of 4, so that what is before the label makes up for the rest.
            int before = w & 3;
            at = before - w;
            b.with(1, ".space " + before, "a:");
            spaces(b, -w);
            b.with(1, text);
        }
        b.linked(w >= 4 ? w : at + 4);
        b.fars(0);
        b.words(at, word);
    }

    private static void spaces(Bench b, int count) {
        int rest = count;
        while (rest > 6000) {
            b.with(1, ".space 6000");
            rest -= 6000;
        }
        b.with(1, ".space " + rest);
    }

    private static void jumps() {
        Bench.of("jal 111: bits 1 to 10 of w at bit 21, 11 at 20, 12 to 19 at 12, 20 at 31.");
        for (int edge : new int[] {4, 8, 16, 32, 64, 128, 256, 512, 1024, 2048, 4096, 8192, 16380}) {
            for (int w : new int[] {edge - 2, edge, edge + 2, -edge - 2, -edge, -edge + 2}) {
                if (w < 0 && w >= -16380 || w >= 4 && w <= 16384) {
                    wayPuts("jal x31,a", w, jump(31, w));
                    wayPuts("jal zero,a", w, jump(0, w));
                }
            }
        }
        wayPuts("jal x1,a", 0, jump(1, 0));
        wayPuts("jal x1,a", 16384, jump(1, 16384));
        wayPuts("jal x1,a", -16380, jump(1, -16380));
        for (int bit = 1; bit <= 20; bit++) {
            for (int w : new int[] {(1 << bit) - 2, 1 << bit, (1 << bit) + 2, -(1 << bit) - 2, -(1 << bit), -(1 << bit) + 2}) {
                if (w >= -1048576 && w <= 1048574) {
                    String text = "jal x" + bit + "," + w;
                    Bench.same("show of " + text, text, shower().shown(jump(bit, w)));
                }
            }
        }
        Bench.same("show of the longest way", "jal x31,1048574", shower().shown(jump(31, 1048574)));
    }

    /** Which operation is encoded by the bits 0 to 6, 12 to 14 and 25 to 31, as the document tells them; "" for none. */
    private static String encoded(int opcode, int f, int top) {
        boolean shift = top == 0 || top == 1;
        switch (opcode) {
            case 51:
                return top == 0 ? "add sll slt sltu xor srl or and".split(" ")[f] : top != 32 ? "" : f == 0 ? "sub" : f == 5 ? "sra" : "";
            case 19:
                return f == 1 ? shift ? "slli" : "" : f != 5 ? new String[] {"addi", "", "slti", "", "xori", "", "ori", "andi"}[f]
                        : shift ? "srli" : top == 32 || top == 33 ? "srai" : "";
            case 27:
                return f == 0 ? "addiw" : "";
            case 55:
                return "lui";
            case 3:
                return new String[] {"lb", "", "lw", "ld", "lbu", "", "", ""}[f];
            case 103:
                return f == 0 ? "jalr" : "";
            case 35:
                return new String[] {"sb", "", "sw", "sd", "", "", "", ""}[f];
            case 99:
                return new String[] {"beq", "bne", "", "", "blt", "bge", "", ""}[f];
            case 111:
                return "jal";
            default:
                return "";
        }
    }

    /** All values of the bits that say which operation a word is, with registers that change from one to the next. */
    private static void noOperation() {
        Bench.of("IllegalArgumentException: no operation is encoded so (nothing is written out then).");
        int others = 0;
        for (int opcode = 0; opcode < 128; opcode++) {
            for (int f = 0; f < 8; f++) {
                for (int top = 0; top < 128; top++) {
                    others = others * 1103515245 + 12345;
                    int word = opcode | f << 12 | top << 25 | others & 0x01ff8f80;
                    String want = encoded(opcode, f, top);
                    if (want.isEmpty()) {
                        Bench b = shower();
                        Bench.thrown("show(" + Integer.toHexString(word) + ")", IllegalArgumentException.class, () -> b.show(word));
                        Bench.thrown("letter(0) after it", IndexOutOfBoundsException.class, () -> b.letter(0));
                    } else {
                        String text = shower().shown(word);
                        Bench.same("show(" + Integer.toHexString(word) + ")", want, text.substring(0, text.indexOf(' ')));
                    }
                }
            }
        }
    }
}
