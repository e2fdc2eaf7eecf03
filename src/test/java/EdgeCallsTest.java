import java.util.NoSuchElementException;
import java.util.function.Consumer;

/** What each call refuses, in which order, and what the other calls answer after it: Promises 1 to 11. */
public final class EdgeCallsTest {
    private static final Class<IllegalArgumentException> ARGUMENT = IllegalArgumentException.class;
    private static final Class<IllegalStateException> STATE = IllegalStateException.class;
    private static final Class<IndexOutOfBoundsException> INDEX = IndexOutOfBoundsException.class;
    private static final int[] NO_MODULES = {-1, 2, 3, Integer.MIN_VALUE, Integer.MAX_VALUE};

    public static void main(String[] args) {
        newObject();
        typeCounts();
        typeTakesTheLowestBytes();
        typeCharacters();
        typeTooMany();
        typeOrder();
        lineIsEmptyAfterwards();
        lineAndTheImage();
        lineAnswersTheCount();
        lineRefusals();
        lineOrder();
        lineLeavesTheRest();
        clear();
        clearRefusals();
        linkAnswersTheLength();
        linkLeavesTheRest();
        farCounts();
        farRefusals();
        image();
        imageRefusals();
        place();
        placeRefusals();
        show();
        showRefusals();
        letter();
        letterRefusals();
        lines();
        linesRefusals();
        Bench.end();
    }

    /** An object with lines in both modules, an image, a text written out, and the beginning of a line typed. */
    private static Bench inUse() {
        Bench b = new Bench().with(0, "a: nop", ".byte 5").with(1, "la x1,b", "b: .global b", "mv x2,x3");
        b.linked(20);
        b.show(0x13);
        b.type("li x9,");
        return b;
    }

    /** The line that inUse typed is still there: what is typed now goes behind it. */
    private static void typedIsThere(Bench b, String what) {
        Bench.due("the rest of the line after " + what, b.lines(1) + 1, () -> b.add(1, "77"));
        int bytes = b.link();
        Bench.same("the line that was typed before " + what, "addi x9,x0,77", b.shown(b.wordAt(bytes - 4)));
    }

    /** A refused call changes nothing that any other call could tell. */
    private static void refusedAndNothingElse(String what, Class<? extends RuntimeException> want, Consumer<Bench> call) {
        Bench fresh = new Bench();
        String before = fresh.told();
        Bench.thrown(what + " of a new object", want, () -> call.accept(fresh));
        Bench.same("all else after " + what, before, fresh.told());
        Bench.due("an empty line after " + what, 1, () -> fresh.line(0));
        refusedInUse(what, want, call);
    }

    private static void refusedInUse(String what, Class<? extends RuntimeException> want, Consumer<Bench> call) {
        Bench b = inUse();
        String before = b.told();
        Bench.thrown(what, want, () -> call.accept(b));
        Bench.same("all else after " + what, before, b.told());
        typedIsThere(b, what);
    }

    private static void newObject() {
        Bench.of("Two modules without lines, no image.");
        Bench b = new Bench();
        Bench.same("a new object", "lines 0 0, far IllegalStateException, image IllegalStateException,"
                + " places IllegalStateException and IllegalStateException, letters IndexOutOfBoundsException", b.told());
        Bench.due("the line that is typed is empty", 1, () -> b.line(0));
        b.linked(0);
        Bench linked = new Bench();
        linked.linked(0);
        Bench.same("an object with an empty image", "lines 0 0, far 0, image IndexOutOfBoundsException,"
                + " places IndexOutOfBoundsException and IndexOutOfBoundsException, letters IndexOutOfBoundsException", linked.told());
        Bench other = new Bench().with(0, "a: nop");
        other.linked(4);
        Bench.due("lines(0) of the first one", 1, () -> b.lines(0));
        b.with(0, "a:");
    }

    private static void typeCounts() {
        Bench.of("n characters (1 .. 8");
        for (int n = 1; n <= 8; n++) {
            Bench b = new Bench();
            b.type(Bench.packed("nop     ".substring(0, n)), n);
            if (n < 3) {
                Bench.thrown("line(0) of " + n + " characters", ARGUMENT, () -> b.line(0));
            } else {
                Bench.due("line(0) of " + n + " characters", 1, () -> b.line(0));
            }
        }
        Bench.of("IllegalArgumentException: n is not 1 .. 8");
        for (int n : new int[] {0, -1, -8, 9, 10, 16, 28, 64, Integer.MIN_VALUE, Integer.MAX_VALUE, Integer.MIN_VALUE + 1, 257, 256}) {
            refusedAndNothingElse("type with n " + n, ARGUMENT, b -> b.type(0x2020202020202020L, n));
        }
    }

    private static void typeTakesTheLowestBytes() {
        Bench.of("the lowest n bytes of bytes, the highest first");
        String text = "sd x31,-2048(x30)";
        for (int n = 1; n <= 8; n++) {
            for (long above : new long[] {0, -1, 0x1f1f1f1f1f1f1f1fL, 0x8080808080808080L, 0x4141414141414141L}) {
                Bench b = new Bench();
                for (int from = 0; from < text.length(); from += n) {
                    String part = text.substring(from, Math.min(from + n, text.length()));
                    // A shift by all 64 bits would be none.
                    long high = part.length() == 8 ? 0 : above << 8 * part.length();
                    b.type(high | Bench.packed(part), part.length());
                }
                b.line(0);
                b.linked(4);
                Bench.same("what was typed by " + n, text, b.shown(b.wordAt(0)));
            }
        }
    }

    private static void typeCharacters() {
        Bench.of("or one is not 32 .. 126");
        for (int n = 1; n <= 8; n++) {
            for (int at = 0; at < n; at++) {
                int count = n;
                long others = 0x2020202020202020L & ~(255L << 8 * at);
                for (long c : new long[] {32, 33, 125, 126}) {
                    Bench b = new Bench();
                    b.type("#");
                    b.type(others | c << 8 * at, n);
                    Bench.due("line(0) with " + c + " at byte " + at + " of " + n, 1, () -> b.line(0));
                }
                for (long c : new long[] {0, 10, 31, 127, 128, 160, 254, 255}) {
                    Bench b = new Bench();
                    long bytes = others | c << 8 * at;
                    Bench.thrown("type with " + c + " at byte " + at + " of " + n, ARGUMENT, () -> b.type(bytes, count));
                    // None of the others was typed.
                    b.type("nop");
                    b.type(" ".repeat(25));
                    Bench.due("line(0) after it", 1, () -> b.line(0));
                }
            }
        }
        refusedAndNothingElse("type of 31", ARGUMENT, b -> b.type(31, 1));
        refusedAndNothingElse("type of 127", ARGUMENT, b -> b.type(127, 1));
        refusedAndNothingElse("type of a good one and 0", ARGUMENT, b -> b.type(0x3100, 2));
        refusedAndNothingElse("type of 0 and a good one", ARGUMENT, b -> b.type(0x31, 2));
        refusedAndNothingElse("type of eight wrong ones", ARGUMENT, b -> b.type(-1, 8));
    }

    private static void typeTooMany() {
        Bench.of("IllegalStateException: it would have more than 28.");
        for (int before = 0; before <= 28; before++) {
            for (int n = 1; n <= 8; n++) {
                int count = n;
                Bench b = new Bench();
                String text = before < 3 ? " ".repeat(before) : "nop" + " ".repeat(before - 3);
                b.type(text);
                if (before + n <= 28) {
                    b.type(Bench.packed("########"), n);
                } else {
                    Bench.thrown(n + " more than " + before, STATE, () -> b.type(Bench.packed("xxxxxxxx"), count));
                    // What still fits does, and nothing more.
                    b.type("#".repeat(28 - before));
                    Bench.thrown("1 more than 28", STATE, () -> b.type('x', 1));
                }
                Bench.due("line(1)", 1, () -> b.line(1));
                b.linked(before < 3 ? 0 : 4);
            }
        }
        // There is room for two more, and three are refused.
        refusedInUse("type of too many", STATE, b -> {
            b.type(" ".repeat(20));
            b.type(Bench.packed("xxx"), 3);
        });
    }

    private static void typeOrder() {
        Bench.of("IllegalArgumentException: n is not 1 .. 8, or one is not 32 .. 126; IllegalStateException: it would have more than 28.");
        Bench b = new Bench();
        b.type("nop" + " ".repeat(25));
        for (int n : new int[] {0, -1, 9, Integer.MAX_VALUE, Integer.MIN_VALUE}) {
            Bench.thrown("type with n " + n + " on a full line", ARGUMENT, () -> b.type(' ', n));
        }
        Bench.thrown("type of 31 on a full line", ARGUMENT, () -> b.type(31, 1));
        Bench.thrown("type of 127 on a full line", ARGUMENT, () -> b.type(127, 1));
        Bench.thrown("type of 8, the last wrong, on a full line", ARGUMENT, () -> b.type(0x202020202020201fL, 8));
        Bench.thrown("type of a blank on a full line", STATE, () -> b.type(' ', 1));
        Bench.due("line(0)", 1, () -> b.line(0));
        b.linked(4);
    }

    private static void lineIsEmptyAfterwards() {
        Bench.of("The line that was typed becomes one more of a module; it is empty afterwards, also when this throws.");
        Bench b = new Bench();
        for (int k = 0; k < 14; k++) {
            b.with(0, k == 0 ? "a: nop" : "");
        }
        b.type(" ".repeat(25) + "nop");
        Bench.due("a line of 28", 15, () -> b.line(0));
        emptyNow(b, "a line that is right");
        b.type(" ".repeat(25) + "foo");
        Bench.thrown("a wrong line", ARGUMENT, () -> b.line(0));
        emptyNow(b, "a wrong line");
        b.type(" ".repeat(26) + "a:");
        Bench.thrown("a label again", STATE, () -> b.line(0));
        emptyNow(b, "a label again");
        for (int module : NO_MODULES) {
            b.type(" ".repeat(25) + "nop");
            Bench.thrown("line(" + module + ")", ARGUMENT, () -> b.line(module));
            emptyNow(b, "line(" + module + ")");
        }
        b.with(0, "");
        b.type(" ".repeat(25) + "nop");
        Bench.thrown("a line too many", STATE, () -> b.line(0));
        emptyNow(b, "a line too many");
    }

    /** All 28 characters can be typed, and they alone are the line. */
    private static void emptyNow(Bench b, String after) {
        b.clear(1);
        Bench.due("an empty line after " + after, 1, () -> b.line(1));
        b.type("li x9,77" + " ".repeat(20));
        Bench.due("a line of 28 after " + after, 2, () -> b.line(1));
        int bytes = b.link();
        b.placed(1, 1, bytes - 4);
        b.words(bytes - 4, 0x04d00493);
    }

    private static void lineAndTheImage() {
        Bench.of("The image is no more (when this does not throw).");
        for (int module = 0; module < 2; module++) {
            for (String text : new String[] {"", "#", "c:", "nop", ".space 0", ".global a"}) {
                Bench b = new Bench().with(0, "a: nop", ".byte 5").with(1, "a: nop");
                b.linked(12);
                b.with(module, text);
                b.noImage();
                b.linked(text.equals("nop") ? 16 : 12);
            }
        }
        refusedLineKeepsAll("a wrong line", ARGUMENT, 0, "foo");
        refusedLineKeepsAll("a wrong line", ARGUMENT, 1, "add x1,x2");
        refusedLineKeepsAll("a label again", STATE, 0, "a:");
        refusedLineKeepsAll("a label again", STATE, 1, "b: nop");
        for (int module : NO_MODULES) {
            refusedLineKeepsAll("line(" + module + ")", ARGUMENT, module, "nop");
        }
    }

    private static void refusedLineKeepsAll(String what, Class<? extends RuntimeException> want, int module, String text) {
        Bench b = inUse();
        // The beginning of the line that inUse typed is no line: it is dropped here.
        Bench.thrown("line(0) of 'li x9,'", ARGUMENT, () -> b.line(0));
        String before = b.told();
        Bench.thrown(what, want, () -> b.add(module, text));
        Bench.same("all else after " + what, before, b.told());
        b.with(1, "nop");
        b.linked(24);
        b.words(20, 0x13);
    }

    private static void lineAnswersTheCount() {
        Bench.of("How many lines the module has.");
        Bench b = new Bench();
        for (int k = 1; k <= 16; k++) {
            int count = k;
            Bench.due("line(0)", count, () -> b.line(0));
            if (k % 2 == 0) {
                Bench.due("line(1)", count / 2, () -> b.line(1));
            }
        }
        b.clear(0);
        Bench.due("line(0) of a cleared module", 1, () -> b.line(0));
        Bench.due("line(1)", 9, () -> b.line(1));
    }

    private static void lineRefusals() {
        Bench.of("IllegalArgumentException: there is no such module, or the line is wrong; IllegalStateException: the module has 16,"
                + " or a label that the line has (this last).");
        for (int module = 0; module < 2; module++) {
            int full = module;
            Bench b = new Bench().with(full, "a: nop");
            for (int k = 0; k < 14; k++) {
                b.with(full, "");
            }
            Bench.thrown("a label again in line 16", STATE, () -> b.add(full, "a:"));
            Bench.thrown("a wrong line 16", ARGUMENT, () -> b.add(full, "foo"));
            b.with(full, "b:");
            b.linked(4);
            String before = b.told();
            Bench.thrown("an empty line 17", STATE, () -> b.line(full));
            Bench.thrown("a right line 17", STATE, () -> b.add(full, "nop"));
            Bench.thrown("a remark as line 17", STATE, () -> b.add(full, "#"));
            Bench.thrown("a new label in line 17", STATE, () -> b.add(full, "c:"));
            Bench.same("all else after line 17", before, b.told());
            b.clear(full);
            b.with(full, "c:");
        }
    }

    private static void lineOrder() {
        Bench.of("IllegalArgumentException: there is no such module, or the line is wrong; IllegalStateException: the module has 16,"
                + " or a label that the line has (this last).");
        Bench b = new Bench().with(0, "a: nop").with(1, "a: nop");
        Bench.thrown("a wrong line with a label again", ARGUMENT, () -> b.add(0, "a: foo"));
        Bench.thrown("a wrong line with a label again", ARGUMENT, () -> b.add(0, "a: nop nop"));
        Bench.thrown("a label again and no module", ARGUMENT, () -> b.add(2, "a: nop"));
        Bench.thrown("a wrong line and no module", ARGUMENT, () -> b.add(-1, "foo"));
        for (int k = 1; k < 16; k++) {
            b.with(0, "").with(1, "");
        }
        Bench.thrown("a label again in line 17", STATE, () -> b.add(0, "a: nop"));
        Bench.thrown("a wrong line 17", ARGUMENT, () -> b.add(0, "foo"));
        Bench.thrown("a wrong line 17 with a label again", ARGUMENT, () -> b.add(1, "a: foo"));
        Bench.thrown("no module while both are full", ARGUMENT, () -> b.add(2, "nop"));
        Bench.due("lines(0)", 16, () -> b.lines(0));
        Bench.due("lines(1)", 16, () -> b.lines(1));
    }

    private static void lineLeavesTheRest() {
        Bench.of("The line that was typed becomes one more of a module");
        Bench b = new Bench().with(0, "nop");
        b.show(0x13);
        b.with(1, "a:");
        Bench.due("lines(0)", 1, () -> b.lines(0));
        Bench.due("lines(1)", 1, () -> b.lines(1));
        Bench.due("letter(0)", 'a', () -> b.letter(0));
        // A refused line leaves neither its label nor what it gives away.
        Bench.thrown("a wrong line", ARGUMENT, () -> b.add(0, "b: foo"));
        Bench.thrown("a label again", STATE, () -> b.add(1, "a: .global a"));
        b.with(0, "j a");
        b.linkThrows(NoSuchElementException.class);
        b.with(0, "b:");
    }

    private static void clear() {
        Bench.of("A module without lines; the image is no more.");
        for (int module = 0; module < 2; module++) {
            int cleared = module;
            Bench b = inUse();
            b.clear(cleared);
            Bench.due("lines of the cleared one", 0, () -> b.lines(cleared));
            Bench.due("lines of the other one", cleared == 0 ? 3 : 2, () -> b.lines(1 - cleared));
            b.noImage();
            Bench.due("letter(0)", 'a', () -> b.letter(0));
            Bench.thrown("letter(12)", INDEX, () -> b.letter(12));
            typedIsThere(b, "clear(" + cleared + ")");
            Bench.due("far()", 0, () -> b.far());
            b.clear(cleared);
            b.with(cleared, "a: nop", "b:");
            // A module without lines is cleared as well, and so is a full one.
            Bench empty = new Bench();
            empty.linked(0);
            empty.clear(cleared);
            empty.noImage();
            Bench.due("lines of an empty one", 0, () -> empty.lines(cleared));
            for (int k = 0; k < 16; k++) {
                empty.with(cleared, "");
            }
            empty.clear(cleared);
            for (int k = 0; k < 16; k++) {
                empty.with(cleared, "");
            }
            Bench.thrown("line 17", STATE, () -> empty.line(cleared));
        }
        // What the module gave away it does not any more.
        Bench given = new Bench().with(0, "a: nop", ".global a").with(1, "j a");
        given.linked(8);
        given.clear(0);
        given.linkThrows(NoSuchElementException.class);
        given.with(0, "a: nop");
        given.linkThrows(NoSuchElementException.class);
    }

    private static void clearRefusals() {
        Bench.of("IllegalArgumentException: there is no such module.");
        for (int module : NO_MODULES) {
            refusedAndNothingElse("clear(" + module + ")", ARGUMENT, b -> b.clear(module));
        }
    }

    private static void linkAnswersTheLength() {
        Bench.of("Links: how many bytes the image has.");
        for (int length = 0; length <= 9; length++) {
            int bytes = length;
            Bench b = new Bench().with(1, ".space " + length);
            b.linked(length);
            b.linked(length);
            Bench.thrown("image(" + length + ")", INDEX, () -> b.image(bytes));
            if (length > 0) {
                Bench.due("image(" + (length - 1) + ")", 0, () -> b.image(bytes - 1));
            }
        }
    }

    private static void linkLeavesTheRest() {
        Bench.of("When this throws, there is no image.");
        String[][] wrongs = {{"j c"}, {".global c"}, {".space 6000", ".space 6000", ".space 6000"}, {"j c", ".byte 0", "c:"}};
        for (String[] wrong : wrongs) {
            Bench b = inUse();
            Bench.thrown("line(0) of 'li x9,'", ARGUMENT, () -> b.line(0));
            b.with(0, wrong);
            b.type("li x9,");
            String before = b.told();
            Bench.thrown("link()", wrong[0].equals("j c") && wrong.length == 1 ? NoSuchElementException.class
                    : wrong[0].startsWith(".s") ? UnsupportedOperationException.class : STATE, () -> b.link());
            Bench.same("all else after link()", before, b.told());
            b.clear(0);
            typedIsThere(b, "link()");
        }
        Bench right = inUse();
        right.linked(20);
        Bench.due("letter(0)", 'a', () -> right.letter(0));
        Bench.due("lines(0)", 2, () -> right.lines(0));
        Bench.due("lines(1)", 3, () -> right.lines(1));
        typedIsThere(right, "link()");
    }

    private static void farCounts() {
        Bench.of("How many branches of the image are far.");
        for (int count = 0; count <= 15; count++) {
            Bench b = new Bench();
            for (int k = 0; k < 15; k++) {
                b.with(0, k < count ? "bnez x1,a" : "bnez x1,b");
            }
            b.with(0, "b:").with(1, ".space 6000", "a:", ".global a");
            b.linked(60 + 4 * count + 6000);
            b.fars(count);
        }
        Bench both = new Bench();
        for (int k = 0; k < 14; k++) {
            both.with(0, "beqz x1,a").with(1, "beqz x1,b");
        }
        both.with(0, "b: .space 4200", ".global b").with(1, "a: .space 0", ".global a");
        both.linked(28 * 8 + 4200);
        both.fars(28);
        // Jumps and the like are never far, and a far one that is cleared is not counted.
        both.clear(0);
        both.with(0, "b: .space 4200", ".global b", "j a", "la x1,a");
        both.linked(4212 + 14 * 8);
        both.fars(14);
        both.clear(1);
        both.with(1, "a: .global a");
        both.linked(4212);
        both.fars(0);
    }

    private static void farRefusals() {
        Bench.of("IllegalStateException: there is no image.");
        Bench b = new Bench();
        Bench.thrown("far() of a new object", STATE, () -> b.far());
        b.with(0, "nop");
        Bench.thrown("far() before link()", STATE, () -> b.far());
        b.linked(4);
        b.fars(0);
        b.type("j a");
        b.fars(0);
        b.line(0);
        Bench.thrown("far() after line", STATE, () -> b.far());
        Bench.thrown("link()", NoSuchElementException.class, () -> b.link());
        Bench.thrown("far() after a link that threw", STATE, () -> b.far());
        b.with(0, "a:");
        b.linked(8);
        b.fars(0);
        b.clear(1);
        Bench.thrown("far() after clear", STATE, () -> b.far());
        Bench.due("lines(0)", 3, () -> b.lines(0));
    }

    private static void image() {
        Bench.of("Byte i of the image, 0 .. 255.");
        Bench b = new Bench();
        int[] bytes = {0, 1, 127, 128, 254, 255};
        for (int value : bytes) {
            b.with(0, ".byte " + value);
        }
        b.with(1, ".word 0xff8001fe", ".byte -128");
        b.linked(13);
        b.bytes(0, 0, 1, 127, 128, 254, 255, 0, 0, 254, 1, 128, 255, 128);
        // Asked again, in any order, the same.
        b.bytes(12, 128);
        b.bytes(0, 0, 1);
        b.linked(13);
        b.bytes(11, 255, 128);
    }

    private static void imageRefusals() {
        Bench.of("IllegalStateException: there is no image; IndexOutOfBoundsException: there is no such byte.");
        for (int i : new int[] {-1, 0, 1, 19, 20, 16383, 16384, Integer.MIN_VALUE, Integer.MAX_VALUE}) {
            Bench none = new Bench().with(0, "nop");
            Bench.thrown("image(" + i + ") without an image", STATE, () -> none.image(i));
            none.linked(4);
            none.clear(1);
            Bench.thrown("image(" + i + ") of a cleared one", STATE, () -> none.image(i));
            if (i < 0 || i > 19) {
                refusedInUse("image(" + i + ")", INDEX, b -> b.image(i));
                Bench empty = new Bench();
                empty.linked(0);
                Bench.thrown("image(" + i + ") of an empty one", INDEX, () -> empty.image(i));
            }
        }
        Bench empty = new Bench().with(0, "", "a:", "#").with(1, ".space 0");
        empty.linked(0);
        Bench.thrown("image(0) of an empty one", INDEX, () -> empty.image(0));
        Bench one = new Bench().with(1, ".byte 9");
        one.linked(1);
        one.bytes(0, 9);
        Bench.thrown("image(1) of one byte", INDEX, () -> one.image(1));
        Bench.thrown("image(-1) of one byte", INDEX, () -> one.image(-1));
    }

    private static void place() {
        Bench.of("Where line k of a module begins in the image (what it puts, behind the zeros before an instruction;"
                + " of a line that puts nothing where things stand then, before such zeros).");
        for (int before = 0; before <= 4; before++) {
            int at = before + 3 & ~3;
            for (String nothing : new String[] {"", "#", "b:", ".global a", "b: .global a", ".space 0", "b: .space 0", "  "}) {
                Bench b = new Bench().with(0, ".space " + before, nothing, "a: nop", nothing.startsWith("b") ? "" : nothing);
                b.linked(at + 4);
                b.placed(0, 0, 0);
                b.placed(0, 1, before);
                b.placed(0, 2, at);
                b.placed(0, 3, at + 4);
            }
            for (String data : new String[] {".byte 1", ".word 1", ".space 1", "b: .byte 1"}) {
                Bench b = new Bench().with(1, ".space " + before, data);
                b.link();
                b.placed(1, 1, before);
            }
        }
        // The first line of module 1 stands behind the zeros before it, whatever it is.
        for (String first : new String[] {"", "a:", ".byte 1", "nop", ".space 0"}) {
            Bench b = new Bench().with(0, ".byte 1", "").with(1, first);
            b.link();
            b.placed(0, 1, 1);
            b.placed(1, 0, 4);
        }
        Bench end = new Bench().with(0, ".space 6000", ".space 6000", ".space 4384", "").with(1, "a:");
        end.linked(16384);
        end.placed(0, 3, 16384);
        end.placed(1, 0, 16384);
    }

    private static void placeRefusals() {
        Bench.of("IllegalStateException: there is no image; IndexOutOfBoundsException: there is no such module or line.");
        for (int module : NO_MODULES) {
            refusedInUse("place(" + module + ", 0)", INDEX, b -> b.place(module, 0));
            Bench none = new Bench();
            Bench.thrown("place(" + module + ", 0) without an image", STATE, () -> none.place(module, 0));
        }
        for (int k : new int[] {-1, 2, 3, 15, 16, 17, Integer.MIN_VALUE, Integer.MAX_VALUE}) {
            refusedInUse("place(0, " + k + ")", INDEX, b -> b.place(0, k));
            if (k != 2) {
                refusedInUse("place(1, " + k + ")", INDEX, b -> b.place(1, k));
            }
            Bench none = new Bench().with(0, "nop");
            Bench.thrown("place(0, " + k + ") without an image", STATE, () -> none.place(0, k));
        }
        Bench empty = new Bench();
        empty.linked(0);
        Bench.thrown("place(0, 0) of no lines", INDEX, () -> empty.place(0, 0));
        Bench.thrown("place(1, 0) of no lines", INDEX, () -> empty.place(1, 0));
        Bench full = new Bench();
        for (int k = 0; k < 16; k++) {
            full.with(1, "nop");
        }
        full.linked(64);
        full.placed(1, 0, 0);
        full.placed(1, 15, 60);
        Bench.thrown("place(1, 16)", INDEX, () -> full.place(1, 16));
        Bench.thrown("place(0, 0)", INDEX, () -> full.place(0, 0));
        full.clear(1);
        Bench.thrown("place(1, 0) of a cleared one", STATE, () -> full.place(1, 0));
    }

    private static String butTheLetters(String told) {
        return told.substring(0, told.indexOf(", letters"));
    }

    private static void show() {
        Bench.of("Writes an instruction out, as the operation (none of the short ones from nop on), a blank, and its operands with commas,"
                + " registers as x and a number, numbers in decimal digits (ways too, where a name would be): how many characters.");
        int[] words = {0x00000013, 0x00008067, 0x0000006f, 0x000000ef, 0x00050063, 0x00051063, 0x00058513, 0x00000037, 0x00000033, 0x80000fef,
            0x800f8f9b, 0x800f8fe7, 0xfff10113, 0x02000ee3, 0x00110113};
        String[] texts = {"addi x0,x0,0", "jalr x0,0(x1)", "jal x0,0", "jal x1,0", "beq x10,x0,0", "bne x10,x0,0", "addi x10,x11,0", "lui x0,0",
            "add x0,x0,x0", "jal x31,-1048576", "addiw x31,x31,-2048", "jalr x31,-2048(x31)", "addi x2,x2,-1", "beq x0,x0,2108",
            "addi x2,x2,1"};
        for (int k = 0; k < words.length; k++) {
            int word = words[k];
            Bench b = inUse();
            Bench.due("show of " + texts[k], texts[k].length(), () -> b.show(word));
            Bench.same("what was written out", texts[k], b.shown(word));
            Bench.same("all but the letters", butTheLetters(inUse().told()), butTheLetters(b.told()));
            typedIsThere(b, "show");
        }
    }

    private static void showRefusals() {
        Bench.of("IllegalArgumentException: no operation is encoded so (nothing is written out then).");
        for (int word : new int[] {0, -1, 1, Integer.MIN_VALUE, Integer.MAX_VALUE, 0x02000033, 0x80000033, 0x40001033, 0x04001013, 0x80005013,
            0x1067, 0x2063, 0x1023, 0x5003, 0x3013, 0x101b, 0x73, 0x17, 0x3b, 0x32}) {
            Bench b = inUse();
            String before = b.told();
            Bench.thrown("show(" + Integer.toHexString(word) + ")", ARGUMENT, () -> b.show(word));
            Bench.thrown("letter(0) after it", INDEX, () -> b.letter(0));
            Bench.thrown("letter(-1) after it", INDEX, () -> b.letter(-1));
            Bench.same("all but the letters", butTheLetters(before), butTheLetters(b.told()));
            Bench.same("the next one", "addi x0,x0,0", b.shown(0x13));
            typedIsThere(b, "show");
        }
    }

    private static void letter() {
        Bench.of("Character k of what was written out last.");
        Bench b = new Bench();
        String[] texts = {"jalr x31,-2048(x31)", "lui x0,0", "addiw x31,x31,-2048"};
        int[] words = {0x800f8fe7, 0x37, 0x800f8f9b};
        for (int turn = 0; turn < texts.length; turn++) {
            String text = texts[turn];
            b.show(words[turn]);
            for (int k = text.length() - 1; k >= 0; k--) {
                int at = k;
                Bench.due("letter(" + at + ") of '" + text + "'", text.charAt(at), () -> b.letter(at));
            }
            Bench.thrown("letter behind '" + text + "'", INDEX, () -> b.letter(text.length()));
        }
        // It stays whatever is done but for show.
        b.with(0, "a: nop");
        b.linked(4);
        b.clear(0);
        b.type("x");
        Bench.thrown("a wrong line", ARGUMENT, () -> b.line(0));
        Bench.due("letter(0)", 'a', () -> b.letter(0));
        Bench.due("letter(18)", '8', () -> b.letter(18));
        Bench.thrown("letter(19)", INDEX, () -> b.letter(19));
    }

    private static void letterRefusals() {
        Bench.of("IndexOutOfBoundsException: there is none.");
        for (int k : new int[] {-1, 12, 13, 28, Integer.MIN_VALUE, Integer.MAX_VALUE}) {
            refusedAndNothingElse("letter(" + k + ")", INDEX, b -> b.letter(k));
        }
        Bench fresh = new Bench();
        Bench.thrown("letter(0) of a new object", INDEX, () -> fresh.letter(0));
        Bench.due("show", 12, () -> fresh.show(0x13));
        Bench.due("letter(0)", 'a', () -> fresh.letter(0));
        Bench.due("letter(11)", '0', () -> fresh.letter(11));
    }

    private static void lines() {
        Bench.of("How many lines a module has.");
        Bench b = new Bench();
        for (int k = 0; k <= 16; k++) {
            int count = k;
            Bench.due("lines(0)", count, () -> b.lines(0));
            Bench.due("lines(1)", count / 2, () -> b.lines(1));
            if (k < 16) {
                b.with(0, "nop");
                if (k % 2 == 1) {
                    b.with(1, "");
                }
            }
        }
        Bench.thrown("line 17", STATE, () -> b.add(0, "nop"));
        Bench.due("lines(0)", 16, () -> b.lines(0));
        b.clear(0);
        Bench.due("lines(0) of a cleared one", 0, () -> b.lines(0));
        Bench.due("lines(1)", 8, () -> b.lines(1));
    }

    private static void linesRefusals() {
        Bench.of("IllegalArgumentException: there is no such module.");
        for (int module : NO_MODULES) {
            refusedAndNothingElse("lines(" + module + ")", ARGUMENT, b -> b.lines(module));
        }
    }
}
