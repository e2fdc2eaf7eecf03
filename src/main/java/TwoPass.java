import java.util.ArrayList;
import java.util.NoSuchElementException;

/**
 * An assembler for a small processor of 32 registers: it takes the lines of two modules, links them
 * into one image, and writes instructions out as text again.
 */
public final class TwoPass {
    private static final int MODULES = 2;
    private static final int MOST_LINES = 16;
    private static final int MOST_CHARACTERS = 28;
    private static final int MOST_BYTES = 16384;
    private static final int MOST_TYPED_AT_ONCE = 8;

    private static final int MOST_LETTERS_OF_NAME = 6;
    private static final int NO_NAME = 0;
    private static final int NOT_THERE = -1;

    // What an operation puts. The numbers from REGISTERS to ADDRESS are those that put instructions,
    // and up to JUMP those that put just one, whose operands stand in its bits.
    private static final int NOTHING = 0;
    private static final int REGISTERS = 1;
    private static final int IMMEDIATE = 2;
    private static final int SHIFT = 3;
    private static final int UPPER = 4;
    private static final int STORE = 5;
    private static final int BRANCH = 6;
    private static final int JUMP = 7;
    private static final int CONSTANT = 8;
    private static final int ADDRESS = 9;
    private static final int WORD = 10;
    private static final int BYTE = 11;
    private static final int SPACE = 12;
    private static final int GLOBAL = 13;

    // The bits at which d, s and t begin in an instruction; F is an f of 1, where it stands.
    private static final int AT_D = 7;
    private static final int AT_S = 15;
    private static final int AT_T = 20;
    private static final int F = 1 << 12;
    private static final int BIT_30 = 1 << 30;

    private static final int LEAST_BRANCH = -4096;
    private static final int MOST_BRANCH = 4094;
    private static final int LEAST_IMMEDIATE = -2048;
    private static final int MOST_IMMEDIATE = 2047;
    private static final int OVER_THE_JUMP = 8;

    private static final Operation[] OPERATIONS = Operation.values();

    private final Typed typed;
    private final Source[] sources;
    private final StringBuilder written;
    private boolean linked;
    private int length;

    public TwoPass() {
        typed = new Typed();
        sources = new Source[] {new Source(), new Source()};
        written = new StringBuilder();
        linked = false;
        length = 0;
    }

    public void type(long bytes, int n) throws IllegalArgumentException, IllegalStateException {
        if (n < 1 || n > MOST_TYPED_AT_ONCE) {
            throw new IllegalArgumentException();
        }
        for (int k = 0; k < n; k++) {
            int character = characterOf(bytes, n, k);
            if (character < 32 || character > 126) {
                throw new IllegalArgumentException();
            }
        }
        if (typed.count + n > MOST_CHARACTERS) {
            throw new IllegalStateException();
        }
        for (int k = 0; k < n; k++) {
            typed.add((char) characterOf(bytes, n, k));
        }
    }

    public int line(int module) throws IllegalArgumentException, IllegalStateException {
        // The line is taken before anything is looked at, since it is gone even when this throws.
        typed.take();
        requireModule(module);
        Line row = typed.read();
        Source source = sources[module];
        if (source.count() >= MOST_LINES) {
            throw new IllegalStateException();
        }
        if (row.label != NO_NAME && source.labelled(row.label) != NOT_THERE) {
            throw new IllegalStateException();
        }
        source.rows.add(row);
        linked = false;
        return source.count();
    }

    public void clear(int module) throws IllegalArgumentException {
        requireModule(module);
        sources[module].rows.clear();
        linked = false;
    }

    public int link() throws NoSuchElementException, IllegalStateException, UnsupportedOperationException {
        linked = false;
        requireNames();
        makeFarBranches();
        if (length > MOST_BYTES) {
            throw new UnsupportedOperationException();
        }
        requireEvenWays();
        encodeLines();
        linked = true;
        return length;
    }

    public int far() throws IllegalStateException {
        requireImage();
        int count = 0;
        for (int m = 0; m < MODULES; m++) {
            for (int k = 0; k < sources[m].count(); k++) {
                if (sources[m].row(k).isFar) {
                    count++;
                }
            }
        }
        return count;
    }

    public int image(int i) throws IllegalStateException, IndexOutOfBoundsException {
        requireImage();
        if (i < 0 || i >= length) {
            throw new IndexOutOfBoundsException();
        }
        for (int m = 0; m < MODULES; m++) {
            for (int k = 0; k < sources[m].count(); k++) {
                Line row = sources[m].row(k);
                if (i >= row.start && i < row.start + row.size()) {
                    return row.byteAt(i - row.start);
                }
            }
        }
        // What no line puts are the zeros before an instruction or before module 1.
        return 0;
    }

    public int place(int module, int k) throws IllegalStateException, IndexOutOfBoundsException {
        requireImage();
        if (!isModule(module) || k < 0 || k >= sources[module].count()) {
            throw new IndexOutOfBoundsException();
        }
        return sources[module].row(k).start;
    }

    public int show(int word) throws IllegalArgumentException {
        written.setLength(0);
        Operation operation = Code.operationOf(word);
        if (operation == Operation.NONE) {
            throw new IllegalArgumentException();
        }
        written.append(operation.text);
        written.append(' ');
        for (int k = 0; k < operation.operands.length(); k++) {
            writeOperand(operation, operation.operands.charAt(k), word);
        }
        return written.length();
    }

    public int letter(int k) throws IndexOutOfBoundsException {
        if (k < 0 || k >= written.length()) {
            throw new IndexOutOfBoundsException();
        }
        return written.charAt(k);
    }

    public int lines(int module) throws IllegalArgumentException {
        requireModule(module);
        return sources[module].count();
    }

    private static int characterOf(long bytes, int n, int k) {
        return (int) (bytes >>> (8 * (n - 1 - k))) & 255;
    }

    private static boolean isModule(int module) {
        return module >= 0 && module < MODULES;
    }

    private static void requireModule(int module) {
        if (!isModule(module)) {
            throw new IllegalArgumentException();
        }
    }

    private void requireImage() {
        if (!linked) {
            throw new IllegalStateException();
        }
    }

    private void requireNames() {
        for (int m = 0; m < MODULES; m++) {
            for (int k = 0; k < sources[m].count(); k++) {
                requireName(m, sources[m].row(k));
            }
        }
    }

    private void requireName(int module, Line row) {
        if (row.operation.layout == GLOBAL) {
            if (sources[module].labelled(row.name) == NOT_THERE) {
                throw new IllegalStateException();
            }
        } else if (row.name != NO_NAME && addressOf(module, row.name) == NOT_THERE) {
            throw new NoSuchElementException();
        }
    }

    private int addressOf(int module, int name) {
        Source own = sources[module];
        int k = own.labelled(name);
        if (k != NOT_THERE) {
            return own.row(k).start;
        }
        Source other = sources[1 - module];
        k = other.labelled(name);
        if (k != NOT_THERE && other.gives(name)) {
            return other.row(k).start;
        }
        return NOT_THERE;
    }

    private int wayOf(int module, Line row) {
        return addressOf(module, row.name) - row.start;
    }

    private void makeFarBranches() {
        for (int m = 0; m < MODULES; m++) {
            for (int k = 0; k < sources[m].count(); k++) {
                sources[m].row(k).isFar = false;
            }
        }
        layOut();
        // Each round but the last makes at least one of the lines far.
        for (int round = 0; round <= MODULES * MOST_LINES && makeUnreachingFar(); round++) {
            layOut();
        }
    }

    private void layOut() {
        int at = 0;
        for (int m = 0; m < MODULES; m++) {
            at = aligned(at);
            for (int k = 0; k < sources[m].count(); k++) {
                Line row = sources[m].row(k);
                row.start = row.operation.putsInstruction() ? aligned(at) : at;
                at = row.start + row.size();
            }
        }
        length = at;
    }

    private static int aligned(int address) {
        return (address + 3) & ~3;
    }

    private boolean makeUnreachingFar() {
        boolean changed = false;
        for (int m = 0; m < MODULES; m++) {
            for (int k = 0; k < sources[m].count(); k++) {
                Line row = sources[m].row(k);
                if (row.operation.layout == BRANCH && !row.isFar && !reaches(wayOf(m, row))) {
                    row.isFar = true;
                    changed = true;
                }
            }
        }
        return changed;
    }

    private static boolean reaches(int way) {
        return way >= LEAST_BRANCH && way <= MOST_BRANCH;
    }

    private void requireEvenWays() {
        for (int m = 0; m < MODULES; m++) {
            for (int k = 0; k < sources[m].count(); k++) {
                Line row = sources[m].row(k);
                if (row.operation.hasWay() && (wayOf(m, row) & 1) != 0) {
                    throw new IllegalStateException();
                }
            }
        }
    }

    private void encodeLines() {
        for (int m = 0; m < MODULES; m++) {
            for (int k = 0; k < sources[m].count(); k++) {
                Line row = sources[m].row(k);
                if (row.operation.hasWay()) {
                    row.encodeWay(wayOf(m, row));
                } else if (row.operation.layout == ADDRESS) {
                    row.encodeAddress(addressOf(m, row.name));
                } else {
                    row.encodeNumber();
                }
            }
        }
    }

    private void writeOperand(Operation operation, char kind, int word) {
        switch (kind) {
            case 'd':
                writeRegister(Code.registerAt(word, AT_D));
                break;
            case 's':
                writeRegister(Code.registerAt(word, AT_S));
                break;
            case 't':
                writeRegister(Code.registerAt(word, AT_T));
                break;
            case 'i':
            case 'l':
                written.append(Code.numberOf(operation.layout, word));
                break;
            default:
                written.append(kind);
                break;
        }
    }

    private void writeRegister(int register) {
        written.append('x');
        written.append(register);
    }

    /**
     * The operations: their text, their operands as the document writes them (d, s, t registers, i a
     * number, l a name), what they put, and the bits of it that no operand changes. The short ones
     * stand behind those that they mean, with the registers they name among their bits.
     */
    private enum Operation {
        NONE("", "", NOTHING, 0),
        ADD("add", "d,s,t", REGISTERS, 51),
        SUB("sub", "d,s,t", REGISTERS, 51 + BIT_30),
        SLL("sll", "d,s,t", REGISTERS, 51 + F),
        SLT("slt", "d,s,t", REGISTERS, 51 + 2 * F),
        SLTU("sltu", "d,s,t", REGISTERS, 51 + 3 * F),
        XOR("xor", "d,s,t", REGISTERS, 51 + 4 * F),
        SRL("srl", "d,s,t", REGISTERS, 51 + 5 * F),
        SRA("sra", "d,s,t", REGISTERS, 51 + 5 * F + BIT_30),
        OR("or", "d,s,t", REGISTERS, 51 + 6 * F),
        AND("and", "d,s,t", REGISTERS, 51 + 7 * F),
        ADDI("addi", "d,s,i", IMMEDIATE, 19),
        SLTI("slti", "d,s,i", IMMEDIATE, 19 + 2 * F),
        XORI("xori", "d,s,i", IMMEDIATE, 19 + 4 * F),
        ORI("ori", "d,s,i", IMMEDIATE, 19 + 6 * F),
        ANDI("andi", "d,s,i", IMMEDIATE, 19 + 7 * F),
        ADDIW("addiw", "d,s,i", IMMEDIATE, 27),
        SLLI("slli", "d,s,i", SHIFT, 19 + F),
        SRLI("srli", "d,s,i", SHIFT, 19 + 5 * F),
        SRAI("srai", "d,s,i", SHIFT, 19 + 5 * F + BIT_30),
        LUI("lui", "d,i", UPPER, 55),
        LB("lb", "d,i(s)", IMMEDIATE, 3),
        LW("lw", "d,i(s)", IMMEDIATE, 3 + 2 * F),
        LD("ld", "d,i(s)", IMMEDIATE, 3 + 3 * F),
        LBU("lbu", "d,i(s)", IMMEDIATE, 3 + 4 * F),
        SB("sb", "t,i(s)", STORE, 35),
        SW("sw", "t,i(s)", STORE, 35 + 2 * F),
        SD("sd", "t,i(s)", STORE, 35 + 3 * F),
        BEQ("beq", "s,t,l", BRANCH, 99),
        BNE("bne", "s,t,l", BRANCH, 99 + F),
        BLT("blt", "s,t,l", BRANCH, 99 + 4 * F),
        BGE("bge", "s,t,l", BRANCH, 99 + 5 * F),
        JAL("jal", "d,l", JUMP, 111),
        JALR("jalr", "d,i(s)", IMMEDIATE, 103),
        NOP("nop", "", IMMEDIATE, 19),
        MV("mv", "d,s", IMMEDIATE, 19),
        RET("ret", "", IMMEDIATE, 103 + (1 << AT_S)),
        J("j", "l", JUMP, 111),
        CALL("call", "l", JUMP, 111 + (1 << AT_D)),
        BEQZ("beqz", "s,l", BRANCH, 99),
        BNEZ("bnez", "s,l", BRANCH, 99 + F),
        LI("li", "d,i", CONSTANT, 0),
        LA("la", "d,l", ADDRESS, 0),
        DOT_WORD(".word", "i", WORD, 0),
        DOT_BYTE(".byte", "i", BYTE, 0),
        DOT_SPACE(".space", "i", SPACE, 0),
        DOT_GLOBAL(".global", "l", GLOBAL, 0);

        final String text;
        final String operands;
        final int layout;
        final int code;

        Operation(String text, String operands, int layout, int code) {
            this.text = text;
            this.operands = operands;
            this.layout = layout;
            this.code = code;
        }

        boolean putsInstruction() {
            return layout >= REGISTERS && layout <= ADDRESS;
        }

        boolean hasWay() {
            return layout == BRANCH || layout == JUMP;
        }

        long leastNumber() {
            switch (layout) {
                case SHIFT:
                case UPPER:
                case SPACE:
                    return 0;
                case CONSTANT:
                case WORD:
                    return -2147483648L;
                case BYTE:
                    return -128;
                default:
                    return LEAST_IMMEDIATE;
            }
        }

        long mostNumber() {
            switch (layout) {
                case SHIFT:
                    return 63;
                case UPPER:
                    return 1048575;
                case SPACE:
                    return 6000;
                case CONSTANT:
                    return 2147483647;
                case WORD:
                    return 4294967295L;
                case BYTE:
                    return 255;
                default:
                    return MOST_IMMEDIATE;
            }
        }
    }

    /** How the operands stand in the bits of one instruction. */
    private static final class Code {
        static int instruction(Operation operation, int d, int s, int t, int number) {
            return operation.code | d << AT_D | s << AT_S | t << AT_T | numberBits(operation.layout, number);
        }

        static int numberBits(int layout, int number) {
            switch (layout) {
                case IMMEDIATE:
                case SHIFT:
                    return number << 20;
                case UPPER:
                    return number << 12;
                case STORE:
                    return bits(number, 0, 5) << 7 | bits(number, 5, 7) << 25;
                case BRANCH:
                    return bits(number, 1, 4) << 8 | bits(number, 5, 6) << 25
                            | bits(number, 11, 1) << 7 | bits(number, 12, 1) << 31;
                case JUMP:
                    return bits(number, 1, 10) << 21 | bits(number, 11, 1) << 20
                            | bits(number, 12, 8) << 12 | bits(number, 20, 1) << 31;
                default:
                    return 0;
            }
        }

        /** The number that numberBits put there; the highest bit of a signed one is bit 31. */
        static int numberOf(int layout, int word) {
            switch (layout) {
                case IMMEDIATE:
                    return word >> 20;
                case SHIFT:
                    return bits(word, 20, 6);
                case UPPER:
                    return word >>> 12;
                case STORE:
                    return bits(word, 7, 5) | (word >> 25) << 5;
                case BRANCH:
                    return bits(word, 8, 4) << 1 | bits(word, 25, 6) << 5
                            | bits(word, 7, 1) << 11 | (word >> 31) << 12;
                case JUMP:
                    return bits(word, 21, 10) << 1 | bits(word, 20, 1) << 11
                            | bits(word, 12, 8) << 12 | (word >> 31) << 20;
                default:
                    return 0;
            }
        }

        static int registerAt(int word, int from) {
            return bits(word, from, 5);
        }

        /** NONE when no operation is encoded so; the short ones stand behind what they mean. */
        static Operation operationOf(int word) {
            for (int k = 0; k < OPERATIONS.length; k++) {
                int fixed = fixedBits(OPERATIONS[k].layout);
                if (fixed != 0 && (word & fixed) == OPERATIONS[k].code) {
                    return OPERATIONS[k];
                }
            }
            return Operation.NONE;
        }

        private static int fixedBits(int layout) {
            switch (layout) {
                case REGISTERS:
                    return 0xfe00707f;
                case SHIFT:
                    return 0xfc00707f;
                case IMMEDIATE:
                case STORE:
                case BRANCH:
                    return 0x707f;
                case UPPER:
                case JUMP:
                    return 0x7f;
                default:
                    return 0;
            }
        }

        private static int bits(int number, int from, int count) {
            return (number >>> from) & ((1 << count) - 1);
        }

        static boolean fitsImmediate(long number) {
            return number >= LEAST_IMMEDIATE && number <= MOST_IMMEDIATE;
        }

        /** The lowest twelve bits as a number -2048 .. 2047. */
        static int lowPart(int number) {
            return (number << 20) >> 20;
        }

        static int highPart(int number) {
            return (number - lowPart(number)) >>> 12;
        }
    }

    /** A line of a module, and what the last linking made of it. */
    private static final class Line {
        int label = NO_NAME;
        Operation operation = Operation.NONE;
        int d;
        int s;
        int t;
        long number;
        int name = NO_NAME;

        int start;
        boolean isFar;
        int firstWord;
        int secondWord;

        int size() {
            switch (operation.layout) {
                case NOTHING:
                case GLOBAL:
                    return 0;
                case BYTE:
                    return 1;
                case SPACE:
                    return (int) number;
                case BRANCH:
                    return isFar ? 8 : 4;
                case CONSTANT:
                    return Code.fitsImmediate(number) || Code.lowPart((int) number) == 0 ? 4 : 8;
                case ADDRESS:
                    return 8;
                default:
                    return 4;
            }
        }

        int byteAt(int offset) {
            int word = offset < 4 ? firstWord : offset < 8 ? secondWord : 0;
            return (word >>> (8 * (offset & 3))) & 255;
        }

        void encodeWay(int way) {
            if (isFar) {
                // The opposite question of a branch differs in the lowest bit of f alone.
                firstWord = Code.instruction(operation, d, s, t, OVER_THE_JUMP) ^ F;
                secondWord = Code.instruction(Operation.JAL, 0, 0, 0, way - 4);
            } else {
                firstWord = Code.instruction(operation, d, s, t, way);
            }
        }

        void encodeAddress(int address) {
            firstWord = Code.instruction(Operation.LUI, d, 0, 0, Code.highPart(address));
            secondWord = Code.instruction(Operation.ADDI, d, d, 0, Code.lowPart(address));
        }

        void encodeNumber() {
            switch (operation.layout) {
                case CONSTANT:
                    encodeConstant((int) number);
                    break;
                case WORD:
                case BYTE:
                    firstWord = (int) number;
                    break;
                case SPACE:
                    break;
                default:
                    firstWord = Code.instruction(operation, d, s, t, (int) number);
                    break;
            }
        }

        private void encodeConstant(int constant) {
            if (Code.fitsImmediate(constant)) {
                firstWord = Code.instruction(Operation.ADDI, d, 0, 0, constant);
            } else {
                // Where the low part is 0 the size of the line leaves the second word out.
                firstWord = Code.instruction(Operation.LUI, d, 0, 0, Code.highPart(constant));
                secondWord = Code.instruction(Operation.ADDIW, d, d, 0, Code.lowPart(constant));
            }
        }
    }

    /** The lines of a module. */
    private static final class Source {
        final ArrayList<Line> rows = new ArrayList<>();

        int count() {
            return rows.size();
        }

        Line row(int k) {
            return rows.get(k);
        }

        int labelled(int name) {
            for (int k = 0; k < rows.size(); k++) {
                if (rows.get(k).label == name) {
                    return k;
                }
            }
            return NOT_THERE;
        }

        boolean gives(int name) {
            for (int k = 0; k < rows.size(); k++) {
                if (rows.get(k).operation.layout == GLOBAL && rows.get(k).name == name) {
                    return true;
                }
            }
            return false;
        }
    }

    /** The line that is typed, and the reading of the one that was taken from it. */
    private static final class Typed {
        private final char[] characters = new char[MOST_CHARACTERS];
        int count;
        private int end;
        private int at;
        private int wordStart;
        private int wordEnd;

        void add(char character) {
            characters[count] = character;
            count++;
        }

        void take() {
            end = count;
            at = 0;
            count = 0;
        }

        /** Throws IllegalArgumentException where the line is wrong, as all that it calls does. */
        Line read() {
            Line row = new Line();
            nextWord();
            if (nextIs(':')) {
                row.label = wordAsName();
                at++;
                nextWord();
            }
            // A line without an operation has an empty word here, which is the text of NONE.
            row.operation = wordAsOperation();
            String operands = row.operation.operands;
            for (int k = 0; k < operands.length(); k++) {
                readOperand(row, operands.charAt(k));
            }
            if (at < end && characters[at] != '#') {
                throw new IllegalArgumentException();
            }
            return row;
        }

        private void readOperand(Line row, char kind) {
            switch (kind) {
                case 'd':
                    row.d = nextRegister();
                    break;
                case 's':
                    row.s = nextRegister();
                    break;
                case 't':
                    row.t = nextRegister();
                    break;
                case 'i':
                    row.number = nextNumber(row.operation.leastNumber(), row.operation.mostNumber());
                    break;
                case 'l':
                    nextWord();
                    row.name = wordAsName();
                    break;
                default:
                    passMark(kind);
                    break;
            }
        }

        private int nextRegister() {
            nextWord();
            return wordAsRegister();
        }

        private long nextNumber(long least, long most) {
            nextWord();
            long number = wordAsNumber();
            if (number < least || number > most) {
                throw new IllegalArgumentException();
            }
            return number;
        }

        private void passMark(char mark) {
            if (!nextIs(mark)) {
                throw new IllegalArgumentException();
            }
            at++;
            skipBlanks();
        }

        private boolean nextIs(char mark) {
            return at < end && characters[at] == mark;
        }

        /** The word may be empty; behind it stands what is no blank. */
        private void nextWord() {
            skipBlanks();
            wordStart = at;
            while (at < end && isOfWord(characters[at])) {
                at++;
            }
            wordEnd = at;
            skipBlanks();
        }

        private void skipBlanks() {
            while (at < end && characters[at] == ' ') {
                at++;
            }
        }

        private static boolean isOfWord(char c) {
            return c != ' ' && c != ',' && c != ':' && c != '(' && c != ')' && c != '#';
        }

        private Operation wordAsOperation() {
            for (int k = 0; k < OPERATIONS.length; k++) {
                if (wordIs(OPERATIONS[k].text)) {
                    return OPERATIONS[k];
                }
            }
            throw new IllegalArgumentException();
        }

        private boolean wordIs(String text) {
            if (text.length() != wordEnd - wordStart) {
                return false;
            }
            for (int k = 0; k < text.length(); k++) {
                if (characters[wordStart + k] != text.charAt(k)) {
                    return false;
                }
            }
            return true;
        }

        /** A name is kept as a number, five bits a letter, so that NO_NAME is no name. */
        private int wordAsName() {
            int letters = wordEnd - wordStart;
            if (letters < 1 || letters > MOST_LETTERS_OF_NAME) {
                throw new IllegalArgumentException();
            }
            int name = NO_NAME;
            for (int k = wordStart; k < wordEnd; k++) {
                char c = characters[k];
                if (c < 'a' || c > 'z') {
                    throw new IllegalArgumentException();
                }
                name = name << 5 | (c - 'a' + 1);
            }
            return name;
        }

        private int wordAsRegister() {
            if (wordIs("zero")) {
                return 0;
            }
            if (wordIs("ra")) {
                return 1;
            }
            if (wordIs("sp")) {
                return 2;
            }
            if (wordStart >= wordEnd || characters[wordStart] != 'x') {
                throw new IllegalArgumentException();
            }
            long register = digitsFrom(wordStart + 1, 10, 2);
            boolean zeroInFront = register < 10 && wordEnd - wordStart > 2;
            if (register > 31 || zeroInFront) {
                throw new IllegalArgumentException();
            }
            return (int) register;
        }

        private long wordAsNumber() {
            if (wordStart + 1 < wordEnd && characters[wordStart] == '0' && characters[wordStart + 1] == 'x') {
                return digitsFrom(wordStart + 2, 16, 8);
            }
            if (wordStart < wordEnd && characters[wordStart] == '-') {
                return -digitsFrom(wordStart + 1, 10, 10);
            }
            return digitsFrom(wordStart, 10, 10);
        }

        private long digitsFrom(int from, int base, int most) {
            if (wordEnd - from < 1 || wordEnd - from > most) {
                throw new IllegalArgumentException();
            }
            long number = 0;
            for (int k = from; k < wordEnd; k++) {
                int digit = digitOf(characters[k]);
                if (digit < 0 || digit >= base) {
                    throw new IllegalArgumentException();
                }
                number = number * base + digit;
            }
            return number;
        }

        private static int digitOf(char c) {
            if (c >= '0' && c <= '9') {
                return c - '0';
            }
            return c >= 'a' && c <= 'f' ? c - 'a' + 10 : NOT_THERE;
        }
    }
}
