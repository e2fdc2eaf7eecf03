import java.util.ArrayList;
import java.util.List;
import java.util.TreeSet;

/** The edges that the document names under "Terms" for modules, lines, names, registers and numbers. */
public final class EdgeLineFormTest {
    private static final int MOST_CALLS = 512;

    public static void main(String[] args) {
        callsOfAnObject();
        modules();
        linesOfAModule();
        charactersOfALine();
        linesThatEndTooEarly();
        characters();
        asManyBlanksAsOneLikes();
        aBlankBetweenWords();
        noBlanksBesideMarks();
        partsOfALine();
        remarks();
        lengthOfNames();
        lettersOfNames();
        namesThatAreNotTheSame();
        labels();
        whatALabelStandsFor();
        registers();
        noZeroInFront();
        registersWithNames();
        digitsOfNumbers();
        hexadecimalNumbers();
        whereARegisterMustBe();
        whereANumberMustBe();
        Bench.end();
    }

    private static void callsOfAnObject() {
        Bench.of("An object is used for at most 512 calls after it has been made");
        Bench b = new Bench();
        while (b.calls() + 4 <= MOST_CALLS - 4) {
            b.type("a: nop");
            b.line(1);
            b.link();
            b.clear(1);
        }
        b.type("li x1,5");
        while (b.calls() < MOST_CALLS - 3) {
            b.lines(0);
        }
        Bench.due("call 510, line(0)", 1, () -> b.line(0));
        Bench.due("call 511, link()", 4, () -> b.link());
        Bench.due("call 512, image(0)", 0x93, () -> b.image(0));
        Bench.same("the calls", "512", Integer.toString(b.calls()));
    }

    private static void modules() {
        Bench.of("A MODULE (0 or 1)");
        Bench b = new Bench().with(0, "nop").with(1, "nop", "nop");
        b.linked(12);
        b.placed(0, 0, 0);
        b.placed(1, 0, 4);
        Bench.due("lines(0)", 1, () -> b.lines(0));
        Bench.due("lines(1)", 2, () -> b.lines(1));
        for (int module : new int[] {-1, 2, 3, -2, 256, 257, 65536, Integer.MIN_VALUE, Integer.MAX_VALUE}) {
            Bench.thrown("lines(" + module + ")", IllegalArgumentException.class, () -> b.lines(module));
            Bench.thrown("line(" + module + ")", IllegalArgumentException.class, () -> b.line(module));
            Bench.thrown("clear(" + module + ")", IllegalArgumentException.class, () -> b.clear(module));
            Bench.thrown("place(" + module + ", 0)", IndexOutOfBoundsException.class, () -> b.place(module, 0));
        }
        b.clear(0);
        b.clear(1);
    }

    private static void linesOfAModule() {
        Bench.of("A MODULE (0 or 1) has at most 16 LINES");
        for (int module = 0; module < 2; module++) {
            int full = module;
            Bench b = new Bench();
            for (int k = 1; k <= 16; k++) {
                int count = k;
                Bench.due("line " + k + " of module " + full, count, () -> b.add(full, "nop"));
            }
            Bench.thrown("line 17 of module " + full, IllegalStateException.class, () -> b.add(full, "nop"));
            Bench.due("lines(" + full + ")", 16, () -> b.lines(full));
            Bench.due("the first line of the other one", 1, () -> b.add(1 - full, "nop"));
            b.linked(17 * 4);
            b.placed(full, 15, full == 0 ? 60 : 64);
        }
        Bench both = new Bench();
        for (int k = 0; k < 16; k++) {
            both.with(0, "a".repeat(k % 6 + 1).replace('a', (char) ('a' + k)) + ": nop").with(1, "nop");
        }
        both.linked(32 * 4);
        both.placed(1, 15, 31 * 4);
    }

    private static void charactersOfALine() {
        Bench.of("LINES of at most 28 characters");
        String[] of28 = {"a: addi x31,x30,-2048 # long", "abcdef:.word     -2147483648", "0123456789012345678901234567",
            "nop                         ", "                         ret", "label: li x31 , -2147483648#",
            "# 3456789 123456789 12345678"};
        for (String text : of28) {
            Bench.same("the test's line", "28", Integer.toString(text.length()));
            Bench b = new Bench();
            b.type(text);
            Bench.thrown("character 29 of '" + text + "'", IllegalStateException.class, () -> b.type(' ', 1));
            if (text.startsWith("0")) {
                Bench.thrown("28 digits are no line", IllegalArgumentException.class, () -> b.line(0));
            } else {
                Bench.due("line(0) of '" + text + "'", 1, () -> b.line(0));
            }
        }
        Bench whole = new Bench();
        whole.type(of28[0]);
        whole.line(0);
        whole.type(of28[5]);
        whole.line(0);
        whole.linked(8);
        whole.words(0, 0x800f0f93, 0x80000fb7);
    }

    /** Nothing stands behind the last of 28 characters, so a line that ends too early there is just wrong. */
    private static void linesThatEndTooEarly() {
        Bench.of("LINES of at most 28 characters");
        for (String text : new String[] {"a", "add", "add x1", "add x1,", "add x1,x2", "add x1,x2,", "add x1,x2,x", "addi x1,x2,", "addi x1,x2,-",
            "addi x1,x2,0x", "slli x1,x2,", "lui x1,", "lb x1,", "lb x1,4", "lb x1,4(", "lb x1,4(x", "lb x1,4(x2", "sb x1,4(x2", "beq x1,x2,",
            "jal x1,", "jalr x1,0(", "mv x1,", "j", "call", "beqz x1,", "li x1,", "li x1,-", "li x1,0x", "la x1,", ".word", ".word -", ".word 0x",
            ".byte", ".space", ".global", "a: b", "a: x", ":", ",", "(", ")", "-", ".", "x"}) {
            Bench.wrongLines(" ".repeat(28 - text.length()) + text, text + " ".repeat(28 - text.length()));
        }
        Bench.rightLines(" ".repeat(26) + "a:", " ".repeat(27) + "#", " ".repeat(25) + "nop", " ".repeat(20) + "mv x1,x2", " ".repeat(21) + "li x1,0",
                " ".repeat(17) + "lb x1,4(x2)", " ".repeat(25) + "j a", " ".repeat(19) + ".global a", " ".repeat(19) + ".word 0x1");
    }

    private static void characters() {
        Bench.of("characters (32 .. 126)");
        for (int c = 0; c < 256; c++) {
            Bench b = new Bench();
            b.type("#");
            int character = c;
            if (c >= 32 && c <= 126) {
                b.type(character, 1);
            } else {
                Bench.thrown("character " + c, IllegalArgumentException.class, () -> b.type(character, 1));
            }
            Bench.due("line(0) with character " + c, 1, () -> b.line(0));
        }
    }

    private static void asManyBlanksAsOneLikes() {
        Bench.of("blanks (32, as many as one likes,");
        Bench.rightLines("", " ", " ".repeat(28), " ".repeat(25) + "nop", "nop" + " ".repeat(25), "mv" + " ".repeat(21) + "x1,x2",
                "mv x1" + " ".repeat(20) + ",x2", "mv x1," + " ".repeat(20) + "x2", "a" + " ".repeat(26) + ":",
                "a:" + " ".repeat(23) + "nop", "lb x1,4" + " ".repeat(17) + "(x2)", "lb x1,4(" + " ".repeat(17) + "x2)",
                "lb x1,4(x2" + " ".repeat(17) + ")", "lb x1,4(x2)" + " ".repeat(17), "nop" + " ".repeat(24) + "#");
    }

    private static void aBlankBetweenWords() {
        Bench.of("at least one where two words would touch otherwise");
        Bench.rightLines("add x1,x2,x3", "j a", "li x1,5", ".word 5", ".word -5", ".byte 0x5", ".space 5", ".global a");
        Bench.wrongLines("addx1,x2,x3", "ja", "lix1,5", ".word5", ".word-5", ".byte0x5", ".space5", ".globala", "lwx1,0(x2)",
                "beqx1,x2,a", "nopnop", "retret");
    }

    private static void noBlanksBesideMarks() {
        Bench.of("none are needed beside a comma, a colon or a bracket");
        Bench b = new Bench().with(0, "a:lb x1,4(x2)", "b: lb x1 , 4 ( x2 ) ", "c :lb x1,4(x2)#", " d : lb x1, 4( x2)");
        b.linked(16);
        b.words(0, 0x00410083, 0x00410083, 0x00410083, 0x00410083);
    }

    private static void partsOfALine() {
        Bench.of("perhaps a LABEL and a colon, perhaps an OPERATION and its OPERANDS with commas between them, perhaps # and anything");
        Bench.rightLines("", "a:", "nop", "#x", "a: nop", "a: #x", "nop #x", "a: nop #x", "mv x1,x2", "a: mv x1,x2 #x");
        Bench.wrongLines("a", "a nop", ":", ":nop", "a:b:", "a:a:nop", "nop a:", "nop nop", "a: nop nop", "mv x1", "mv x1,", "mv ,x2",
                "mv x1,,x2", "mv x1,x2,", "mv x1 x2", "mv,x1,x2", ",mv x1,x2", "mv x1,x2 x3", "nop,", "nop::", "nop()", "a:,", "a:(");
    }

    private static void remarks() {
        Bench.of("perhaps # and anything");
        StringBuilder anything = new StringBuilder();
        for (char c = 32; c <= 126; c++) {
            anything.append(c);
        }
        for (int from = 0; from < anything.length(); from += 25) {
            String part = anything.substring(from, Math.min(from + 25, anything.length()));
            Bench b = new Bench().with(1, "nop#" + part.substring(0, Math.min(24, part.length())), "#" + part, "a:#" + part);
            b.linked(4);
            b.words(0, 0x13);
        }
        Bench.rightLines("#", "##", "#" + "#".repeat(27), "a: nop # b: nop", "# a:", " ".repeat(27) + "#");
        Bench.wrongLines("no#p", "add x1,x2#,x3", "add x1,x2,#x3", "a#:", "lb x1,4(x2#)", "li x1,#5", ".word#5", "j#a");
    }

    private static void lengthOfNames() {
        Bench.of("A NAME is 1 to 6 letters a .. z.");
        for (int letters = 0; letters <= 9; letters++) {
            for (String name : new String[] {"a".repeat(letters), "z".repeat(letters), "xlabelled".substring(0, letters)}) {
                String[] texts = {name + ":", name + ": nop", "j " + name, "call " + name, "jal x1," + name, "beq x1,x2," + name,
                    "bnez x1," + name, "la x1," + name, ".global " + name};
                if (letters >= 1 && letters <= 6) {
                    Bench.rightLines(texts);
                } else {
                    Bench.wrongLines(texts);
                }
            }
        }
    }

    private static void lettersOfNames() {
        Bench.of("A NAME is 1 to 6 letters a .. z.");
        for (char c = 33; c <= 126; c++) {
            if (c == '#') {
                continue;
            }
            String[] texts = {c + ":", "ab" + c + "cd:", "abcde" + c + ": nop", "j " + c, "j a" + c, "la x1," + c + "b", ".global ab" + c};
            if (c >= 'a' && c <= 'z') {
                Bench.rightLines(texts);
            } else if (c == ':') {
                Bench.wrongLines("::", "ab:cd:", "abcde:: nop", "j a:", "la x1,:b", ".global ab:");
            } else {
                Bench.wrongLines(texts);
            }
        }
    }

    /** Names are the same when all their letters are, and only then. */
    private static void namesThatAreNotTheSame() {
        Bench.of("A label is a name that no other label of the module has");
        List<String> names = new ArrayList<>();
        for (char first = 'a'; first <= 'z'; first++) {
            names.add("" + first);
            for (char second = 'a'; second <= 'z'; second++) {
                names.add("" + first + second);
            }
        }
        notTheSame(names);
        names.clear();
        for (int letters = 3; letters <= 6; letters++) {
            for (int at = 0; at < letters; at++) {
                for (char c = 'a'; c <= 'z'; c++) {
                    names.add("a".repeat(at) + c + "a".repeat(letters - 1 - at));
                    names.add("z".repeat(at) + c + "z".repeat(letters - 1 - at));
                }
            }
        }
        notTheSame(new ArrayList<>(new TreeSet<>(names)));
    }

    private static void notTheSame(List<String> names) {
        for (int k = 0; k < names.size(); k++) {
            String name = names.get(k);
            Bench.thrown("'" + name + ":' again", IllegalStateException.class, () -> new Bench().with(0, name + ":").add(0, name + ":"));
            new Bench().with(0, "j " + name, name + ":").linked(4);
            for (int from = 0; from < k; from += 15) {
                Bench b = new Bench();
                for (String other : names.subList(from, Math.min(from + 15, k))) {
                    b.add(0, other + ":");
                }
                Bench.due("lines before '" + name + ":'", Math.min(15, k - from), () -> b.lines(0));
                b.with(0, name + ":");
            }
        }
        Bench jump = new Bench().with(0, "j " + names.get(0), names.get(1) + ":");
        jump.linkThrows(java.util.NoSuchElementException.class);
    }

    private static void labels() {
        Bench.of("A label is a name that no other label of the module has");
        Bench b = new Bench().with(0, "a: nop", "b:", "c: .word 1", "d: .global a");
        for (String text : new String[] {"a:", "a: nop", "b: nop", "b:", "c:", "d:", "a: # a", " a : nop"}) {
            Bench.thrown("'" + text + "' again", IllegalStateException.class, () -> b.add(0, text));
        }
        Bench.due("lines(0)", 4, () -> b.lines(0));
        b.with(1, "a:", "b: nop", "c:", "d:");
        Bench.thrown("'d:' again in module 1", IllegalStateException.class, () -> b.add(1, "d:"));
        b.with(0, "e:", "aa:", "nop", "j a", ".global a", "# a:");
        // The last line of a full module but one has the label.
        Bench c = new Bench();
        for (int k = 0; k < 14; k++) {
            c.with(1, "");
        }
        c.with(1, "last:");
        Bench.thrown("'last:' again", IllegalStateException.class, () -> c.add(1, "last:"));
        c.with(1, "lasu:");
    }

    private static void whatALabelStandsFor() {
        Bench.of("it stands for the address of what comes next");
        Bench b = new Bench().with(0, "a: .byte 1", "b: .byte 2", "c: .space 2", "d: nop", "e:", "la x1,a", "la x1,b", "la x1,c",
                "la x1,d", "la x1,e");
        b.linked(48);
        int[] addresses = {0, 1, 2, 4, 8};
        for (int k = 0; k < addresses.length; k++) {
            b.placed(0, k, addresses[k]);
            Bench.same("the address of line " + k, "addi x1,x1," + addresses[k], b.shown(b.wordAt(12 + 8 * k)));
        }
    }

    private static void registers() {
        Bench.of("A REGISTER is x and a number 0 .. 31");
        for (int k = 0; k <= 31; k++) {
            Bench b = new Bench().with(0, "add x" + k + ",x0,x0", "add x0,x" + k + ",x0", "add x0,x0,x" + k, "sb x" + k + ",0(x0)",
                    "lb x0,0(x" + k + ")");
            b.linked(20);
            b.words(0, 51 | k << 7, 51 | k << 15, 51 | k << 20, 35 | k << 20, 3 | k << 15);
        }
        for (int k : new int[] {-31, -1, 32, 33, 39, 40, 63, 64, 99, 100, 131, 256, 310, 999}) {
            noRegister("x" + k);
        }
        noRegister("x4294967296");
        noRegister("x");
        noRegister("x 1");
        noRegister("x1x");
        noRegister("xx1");
        noRegister("X1");
        noRegister("x/");
        noRegister("x1/");
        noRegister("x0x1");
        noRegister("xa");
        noRegister("y1");
        noRegister("w1");
        noRegister("1");
        noRegister("");
    }

    private static void noRegister(String r) {
        Bench.wrongLines("add " + r + ",x1,x1", "add x1," + r + ",x1", "add x1,x1," + r, "lb x1,0(" + r + ")", "sb " + r + ",0(x1)",
                "mv " + r + ",x1", "mv x1," + r, "li " + r + ",5", "lui " + r + ",5", "la " + r + ",a", "jal " + r + ",a", "beqz " + r + ",a",
                "jalr " + r + ",0(x1)");
    }

    private static void noZeroInFront() {
        Bench.of("(no 0 in front of another digit)");
        Bench.rightLines("mv x0,x10", "mv x20,x30");
        for (String r : new String[] {"x00", "x01", "x02", "x09", "x010", "x031", "x001", "x000"}) {
            noRegister(r);
        }
    }

    private static void registersWithNames() {
        Bench.of("or zero, ra, sp for x0, x1, x2.");
        Bench b = new Bench().with(0, "add zero,ra,sp", "add ra,sp,zero", "add sp,zero,ra", "sb ra,0(sp)", "lb sp,0(zero)");
        b.linked(20);
        b.words(0, 0x00208033, 0x000100b3, 0x00100133, 0x00110023, 0x00000103);
        for (String r : new String[] {"zer", "zeros", "zeroo", "r", "raa", "rb", "s", "spp", "sq", "gp", "tp", "fp", "t0", "s0", "a0", "pc", "ZERO",
            "Ra", "SP", "ze ro", "ra0", "sp1", "xzero", "xra"}) {
            noRegister(r);
        }
    }

    private static void digitsOfNumbers() {
        Bench.of("A NUMBER is digits, at most ten, perhaps - in front");
        Bench b = new Bench().with(0, ".word 0", ".word 9", ".word 1234567890", ".word 0000000000", ".word 0000000001", ".word -1",
                ".word -1234567890", ".word -0000000001", ".word -0", ".word 0123456789");
        b.linked(40);
        b.words(0, 0, 9, 1234567890, 0, 1, -1, -1234567890, -1, 0, 123456789);
        Bench.wrongLines(".word", ".word -", ".word --1", ".word 1-", ".word +1", ".word - 1", ".word 00000000000", ".word 00000000001",
                ".word 12345678901", ".word -00000000000", ".word -00000000001", ".word /", ".word 1/", ".word ;", ".word 1;",
                ".word 1:", ".word 1.", ".word 1e1", ".word 1_0", ".word 1 0", ".word 'a'", ".word 0b1", ".word 10l", ".word a");
        // Ten digits that are far too large for the number to hold in 32 bits, and would be right without the highest.
        Bench.wrongLines(".word 9999999999", ".word -9999999999", ".word 4294967297", ".word 8589934592", "addi x1,x2,4294967296",
                "li x1,4294967297", ".byte 4294967297", ".space 4294967296", "lui x1,4294967296", "slli x1,x2,4294967296", "li x1,-4294967295");
    }

    private static void hexadecimalNumbers() {
        Bench.of("or 0x and 1 to 8 digits 0 .. 9 a .. f.");
        Bench b = new Bench().with(0, ".word 0x0", ".word 0x9", ".word 0xa", ".word 0xf", ".word 0x00000000", ".word 0x00000001",
                ".word 0xffffffff", ".word 0x89abcdef", ".word 0x01234567", "lui x1,0xfffff", "addi x1,x2,0x7ff", ".byte 0xff",
                "slli x1,x2,0x3f");
        b.linked(52);
        b.words(0, 0, 9, 10, 15, 0, 1, -1, 0x89abcdef, 0x01234567, 0xfffff0b7, 0x7ff10093, 0xff, 0x03f11093);
        Bench.wrongLines(".word 0x", ".word 0x000000000", ".word 0x000000001", ".word 0x123456789", ".word 0xg", ".word 0x`", ".word 0x/",
                ".word 0x;", ".word 0x1:", ".word 0xA", ".word 0xF", ".word 0XA", ".word 0X1", ".word -0x1", ".word 0x-1", ".word 00x1",
                ".word 1x1", ".word x1", ".word 0x1g", ".word 0x 1", ".word 0 x1", ".word ff", ".word 0xx1", ".word 0x0x1", ".word 0x1x");
        Bench.wrongLines("addi x1,x2,0x800", "addi x1,x2,0xfff", "addi x1,x2,0xffffffff", "li x1,0x80000000", "li x1,0xffffffff",
                ".byte 0x100", ".byte 0xffffffff", ".space 0x1771", "lui x1,0x100000", "slli x1,x2,0x40");
        Bench.rightLines(".space 0x1770", "li x1,0x7fffffff");
    }

    private static void whereARegisterMustBe() {
        Bench.of("(What is no register where one must be, or no number in the range that is said, is wrong.)");
        for (String other : new String[] {"5", "-1", "0x1", "a", "a:", "nop", ".word", "", "(x1)", "x1(x2)", "0(x1)"}) {
            noRegister(other);
        }
    }

    private static void whereANumberMustBe() {
        Bench.of("(What is no register where one must be, or no number in the range that is said, is wrong.)");
        for (String other : new String[] {"x1", "zero", "a", "a:", "nop", "", "(5)", "5(x1)", "0x", "-", "x"}) {
            Bench.wrongLines("addi x1,x2," + other, "addiw x1,x2," + other, "slli x1,x2," + other, "lui x1," + other, "lb x1," + other + "(x2)",
                    "sb x1," + other + "(x2)", "jalr x1," + other + "(x2)", "li x1," + other, ".word " + other, ".byte " + other,
                    ".space " + other);
        }
    }
}
