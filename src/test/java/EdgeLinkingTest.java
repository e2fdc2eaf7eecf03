import java.util.NoSuchElementException;

/** The edges that the document names under "Terms" for linking, and the order in which link refuses. */
public final class EdgeLinkingTest {
    public static void main(String[] args) {
        moduleOneBehindModuleZero();
        alsoWithoutLines();
        namesOfTheOwnModule();
        namesOfTheOtherModule();
        unknown();
        givenAwayWithoutALabel();
        oddWays();
        waysThatReach();
        waysThatDoNotReach();
        oppositeQuestions();
        firstNone();
        again();
        asManyRoundsAsBranches();
        mostBytes();
        refusals();
        allLinesFirst();
        moduleZeroFirst();
        firstOneSaysWhich();
        thenTheLength();
        thenOddWays();
        noImageWhenItThrows();
        Bench.end();
    }

    /** Lines that put so many zeros. */
    private static Bench zeros(Bench b, int module, int count) {
        int rest = count;
        while (rest > 6000) {
            b.with(module, ".space 6000");
            rest -= 6000;
        }
        return b.with(module, ".space " + rest);
    }

    private static void moduleOneBehindModuleZero() {
        Bench.of("module 1 comes behind module 0, at the next multiple of 4");
        int[] starts = {0, 4, 4, 4, 4, 8, 8, 8, 8, 12};
        for (int size = 0; size < starts.length; size++) {
            Bench b = new Bench();
            for (int k = 0; k < size; k++) {
                b.with(0, ".byte 255");
            }
            b.with(1, "a: .byte 254", ".word 0xfdfdfdfd");
            b.linked(starts[size] + 5);
            b.placed(1, 0, starts[size]);
            for (int k = 0; k < starts[size]; k++) {
                b.bytes(k, k < size ? 255 : 0);
            }
            b.bytes(starts[size], 254, 253, 253, 253, 253);
        }
        // The lines may come in any order.
        Bench b = new Bench().with(1, ".byte 2").with(0, ".byte 1").with(1, ".byte 4").with(0, ".byte 3");
        b.linked(6);
        b.bytes(0, 1, 3, 0, 0, 2, 4);
    }

    private static void alsoWithoutLines() {
        Bench.of("(the zeros up to there are in the image, also when module 1 has no lines)");
        int[] lengths = {0, 4, 4, 4, 4, 8};
        for (int size = 0; size < lengths.length; size++) {
            int length = lengths[size];
            Bench b = new Bench();
            for (int k = 0; k < size; k++) {
                b.with(0, ".byte 255");
            }
            b.linked(length);
            for (int k = 0; k < length; k++) {
                b.bytes(k, k < size ? 255 : 0);
            }
            Bench.thrown("image(" + length + ")", IndexOutOfBoundsException.class, () -> b.image(length));
            b.with(1, "", "a:", "#", ".space 0");
            b.linked(length);
            b.placed(1, 0, length);
            b.placed(1, 1, length);
        }
        // Behind module 1 there are none.
        for (int size = 0; size < 6; size++) {
            new Bench().with(1, ".space " + size).linked(size);
        }
    }

    private static void namesOfTheOwnModule() {
        Bench.of("A name stands for the label of its own module");
        for (int module = 0; module < 2; module++) {
            Bench b = new Bench().with(module, "j a", "a: j a").with(1 - module, "nop", "a: nop", ".global a");
            b.linked(16);
            b.words(8 * module, 0x0040006f, 0x0000006f);
            Bench c = new Bench().with(module, "j a", "a: j a", ".global a").with(1 - module, "nop", "a: j a", ".global a");
            c.linked(16);
            c.words(8 * module, 0x0040006f, 0x0000006f);
            c.words(8 * (1 - module), 0x13, 0x0000006f);
        }
    }

    private static void namesOfTheOtherModule() {
        Bench.of("otherwise for the label that the other module gives away");
        Bench b = new Bench().with(0, "j b", "a: nop", ".global a").with(1, "j a", "b: nop", ".global b");
        b.linked(16);
        b.words(0, 0x00c0006f);
        b.words(8, 0xffdff06f);
        Bench c = new Bench().with(0, ".global a", "la x1,b", "a: .byte 1").with(1, "la x1,a", "b:", ".global b");
        c.linked(20);
        c.words(0, 0x000000b7, 0x01408093);
        c.words(12, 0x000000b7, 0x00808093);
        // The giving away of the own module does not count.
        new Bench().with(0, "j a", "b:", ".global b").with(1, "a:").linkThrows(NoSuchElementException.class);
    }

    private static void unknown() {
        Bench.of("when there is neither, it is UNKNOWN");
        for (String use : new String[] {"beq x1,x2,a", "bne x1,x2,a", "blt x1,x2,a", "bge x1,x2,a", "jal x1,a", "j a", "call a", "beqz x1,a",
            "bnez x1,a", "la x1,a"}) {
            int size = use.startsWith("la") ? 8 : 4;
            for (int module = 0; module < 2; module++) {
                int other = 1 - module;
                new Bench().with(module, use).linkThrows(NoSuchElementException.class);
                new Bench().with(module, use).with(other, "a:").linkThrows(NoSuchElementException.class);
                new Bench().with(module, use).with(other, "a:", "b: .global b").linkThrows(NoSuchElementException.class);
                new Bench().with(module, use, "b:").with(other, "aa: .global aa").linkThrows(NoSuchElementException.class);
                new Bench().with(module, use).with(other, "a:", ".global a").linked(size);
                new Bench().with(module, use, "a:").linked(size);
                // The last line of all 16 has the name.
                Bench b = new Bench();
                for (int k = 0; k < 15; k++) {
                    b.with(module, "");
                }
                b.with(module, use);
                b.linkThrows(NoSuchElementException.class);
            }
        }
    }

    private static void givenAwayWithoutALabel() {
        Bench.of("that a module gives away what it has no label for is WRONG");
        for (int module = 0; module < 2; module++) {
            int other = 1 - module;
            new Bench().with(module, ".global a").linkThrows(IllegalStateException.class);
            new Bench().with(module, ".global a").with(other, "a:").linkThrows(IllegalStateException.class);
            new Bench().with(module, ".global a").with(other, "a: .global a").linkThrows(IllegalStateException.class);
            new Bench().with(module, "b: .global a").linkThrows(IllegalStateException.class);
            new Bench().with(module, "aa: .global a").linkThrows(IllegalStateException.class);
            new Bench().with(module, ".global a", "a:").linked(0);
            new Bench().with(module, "a: .global a").linked(0);
            new Bench().with(module, "a: .global a", ".global b").linkThrows(IllegalStateException.class);
        }
    }

    private static void oddWays() {
        Bench.of("ways that are odd are wrong.");
        for (String use : new String[] {"beq x1,x2,a", "bne x1,x2,a", "blt x1,x2,a", "bge x1,x2,a", "jal x1,a", "j a", "call a", "beqz x1,a",
            "bnez x1,a"}) {
            for (int more = 0; more <= 4; more++) {
                Bench forward = new Bench().with(1, use, ".space " + more, "a: .byte 0");
                Bench backward = new Bench().with(1, ".space " + more, "a: .byte 0", use);
                Bench across = new Bench().with(0, use).with(1, ".space " + more, "a: .byte 0", ".global a");
                if (more % 2 == 0) {
                    forward.linked(4 + more + 1);
                    backward.linked((more + 1 + 3 & ~3) + 4);
                    across.linked(4 + more + 1);
                } else {
                    forward.linkThrows(IllegalStateException.class);
                    backward.linkThrows(IllegalStateException.class);
                    across.linkThrows(IllegalStateException.class);
                }
            }
            // A label of an instruction is never odd.
            new Bench().with(1, use, ".byte 0", "a: nop").linked(12);
        }
        // Addresses may be odd.
        new Bench().with(1, "la x1,a", ".byte 0", "a:").linked(9);
        // So may those of labels that no way leads to.
        new Bench().with(1, "j b", "b: .byte 0", "a:", ".global a").linked(5);
    }

    private static void waysThatReach() {
        Bench.of("A branch whose way is not -4096 .. 4094");
        for (String op : new String[] {"beq x1,x2,a", "bne x1,x2,a", "blt x1,x2,a", "bge x1,x2,a", "beqz x1,a", "bnez x1,a"}) {
            for (int w : new int[] {4, 4088, 4090, 4092, 4094}) {
                Bench b = new Bench().with(1, op, ".space " + (w - 4), "a:");
                b.linked(w);
                b.fars(0);
                b.placed(1, 2, w);
            }
            for (int w : new int[] {-4, -4092, -4094, -4096}) {
                Bench b = new Bench().with(1, ".space " + (w & 3), "a: .space " + -w, op);
                b.linked((w & 3) - w + 4);
                b.fars(0);
            }
        }
    }

    private static void waysThatDoNotReach() {
        Bench.of("A branch whose way is not -4096 .. 4094");
        for (String op : new String[] {"beq x1,x2,a", "bne x1,x2,a", "blt x1,x2,a", "bge x1,x2,a", "beqz x1,a", "bnez x1,a"}) {
            for (int w : new int[] {4096, 4098, 6000}) {
                Bench b = new Bench().with(1, op, ".space " + (w - 4), "a:");
                b.linked(w + 4);
                b.fars(1);
                b.placed(1, 1, 8);
                b.placed(1, 2, w + 4);
                Bench.same("the jump of way " + w, "jal x0," + w, b.shown(b.wordAt(4)));
            }
            for (int w : new int[] {-4098, -4100, -4102, -6000}) {
                Bench b = new Bench().with(1, ".space " + (w & 3), "a: .space " + -w, op);
                int at = (w & 3) - w;
                b.linked(at + 8);
                b.fars(1);
                Bench.same("the jump of way " + w, "jal x0," + (w - 4), b.shown(b.wordAt(at + 4)));
            }
            // Odd ways between the last that reaches and the first that does not.
            new Bench().with(1, op, ".space 4089", "a:").linkThrows(IllegalStateException.class);
            new Bench().with(1, op, ".space 4091", "a:").linkThrows(IllegalStateException.class);
            new Bench().with(1, ".space 3", "a: .space 4097", op).linkThrows(IllegalStateException.class);
            new Bench().with(1, ".space 1", "a: .space 4095", op).linkThrows(IllegalStateException.class);
        }
        // Jumps reach all of the longest image, and addresses have no way.
        Bench jumps = zeros(new Bench().with(0, "b: jal x1,a", "j a", "call a", "la x1,a"), 0, 16384 - 32).with(0, "a: j b", "call b", "jal x1,b");
        jumps.linked(16384);
        jumps.fars(0);
        Bench.same("the longest jump forward", "jal x1,16372", jumps.shown(jumps.wordAt(0)));
        Bench.same("the longest jump back", "jal x1,-16380", jumps.shown(jumps.wordAt(16380)));
    }

    private static void oppositeQuestions() {
        Bench.of("becomes the branch with the opposite question (beq and bne, blt and bge) with the way 8, and jal x0,l.");
        String[] near = {"beq", "bne", "blt", "bge"};
        String[] far = {"bne", "beq", "bge", "blt"};
        for (int k = 0; k < near.length; k++) {
            for (int r : new int[] {0, 1, 31}) {
                Bench b = new Bench().with(0, near[k] + " x" + r + ",x" + (31 - r) + ",a", ".space 6000", "a: nop");
                b.linked(6012);
                b.fars(1);
                Bench.same("the question", far[k] + " x" + r + ",x" + (31 - r) + ",8", b.shown(b.wordAt(0)));
                Bench.same("the jump", "jal x0,6004", b.shown(b.wordAt(4)));
                Bench c = new Bench().with(0, "a: .space 6000", near[k] + " x" + r + ",x" + (31 - r) + ",a");
                c.linked(6008);
                c.fars(1);
                Bench.same("the question", far[k] + " x" + r + ",x" + (31 - r) + ",8", c.shown(c.wordAt(6000)));
                Bench.same("the jump", "jal x0,-6004", c.shown(c.wordAt(6004)));
            }
        }
        for (String[] one : new String[][] {{"beqz", "bne"}, {"bnez", "beq"}}) {
            Bench b = new Bench().with(0, one[0] + " x31,a", ".space 6000", "a: nop");
            b.linked(6012);
            Bench.same("the question", one[1] + " x31,x0,8", b.shown(b.wordAt(0)));
            Bench.same("the jump", "jal x0,6004", b.shown(b.wordAt(4)));
        }
        // It stands at a multiple of 4, and a label in front of it too.
        Bench b = new Bench().with(1, ".byte 1", "b: beqz x1,a", ".byte 2", ".space 6000", "a: j b");
        b.linked(6020);
        b.placed(1, 1, 4);
        b.placed(1, 2, 12);
        Bench.same("the jump behind it", "jal x0,6008", b.shown(b.wordAt(8)));
        Bench.same("the jump to it", "jal x0,-6012", b.shown(b.wordAt(6016)));
    }

    private static void firstNone() {
        Bench.of("Which do: first none; then all that do not reach as things stand are made far");
        // With none of them far, each of these reaches by just so much.
        Bench b = new Bench().with(1, "beqz x1,a", "beqz x1,a", "beqz x1,a", ".space 4082", "a:");
        b.linked(4094);
        b.fars(0);
        // The first does not reach; that makes no other one far, as it stands behind none of them.
        Bench c = new Bench().with(1, "beqz x1,a", "beqz x1,a", "beqz x1,a", ".space 4084", "a:");
        c.linked(4100);
        c.fars(1);
        c.placed(1, 1, 8);
        c.placed(1, 2, 12);
        // All of them.
        Bench d = new Bench().with(1, "beqz x1,a", "beqz x1,a", "beqz x1,a", ".space 4092", "a:");
        d.linked(4116);
        d.fars(3);
        // Each link begins with none, whatever the one before it made far.
        for (int module = 0; module < 2; module++) {
            Bench e = new Bench().with(module, "beqz x1,a", "b: .global b")
                    .with(1 - module, ".space 5000", "a: .space 5000", "beqz x1,b", ".global a");
            e.link();
            e.fars(module == 0 ? 2 : 1);
            e.clear(1 - module);
            e.with(1 - module, "a: .global a");
            e.linked(4);
            e.fars(0);
            Bench.same("the branch, near again", "beq x1,x0," + (module == 0 ? 4 : 0), e.shown(e.wordAt(0)));
        }
    }

    private static void again() {
        Bench.of("and again, until all reach; none becomes near again.");
        // The second is far at once, which moves the label of the first out of its reach, in the second round.
        Bench b = new Bench().with(1, "beqz x1,a", "beqz x1,b", ".space 4084", "a: .space 4", "b:");
        b.linked(4096);
        b.fars(0);
        Bench c = new Bench().with(1, "beqz x1,a", "beqz x1,b", ".space 4084", "a: .space 8", "b:");
        c.linked(4108);
        c.fars(2);
        c.placed(1, 1, 8);
        c.placed(1, 3, 4100);
        // Backward: the one in the middle moves the last one away from its label.
        Bench d = new Bench().with(1, "a: .space 4", "b: .space 4092", "beqz x1,a", "beqz x1,b");
        d.linked(4104);
        d.fars(0);
        Bench e = new Bench().with(1, "a: .space 8", "b: .space 4092", "beqz x1,a", "beqz x1,b");
        e.linked(4100 + 16);
        e.fars(2);
        // Across modules: a far one in module 0 moves module 1.
        Bench f = new Bench().with(0, "beqz x1,b", "c: beqz x1,a", ".global c").with(1, ".space 4088", "a: .space 2", ".space 2", "b:",
                ".global a", ".global b");
        f.linked(8 + 4092 + 4);
        f.fars(1);
        Bench g = new Bench().with(0, "beqz x1,b", "c: beqz x1,a", ".global c").with(1, ".space 4092", "a:", "b:", ".global a", ".global b");
        g.linked(16 + 4092);
        g.fars(2);
    }

    private static void asManyRoundsAsBranches() {
        Bench.of("and again, until all reach; none becomes near again.");
        for (int count = 1; count <= 7; count++) {
            chain(count, 0, count);
            chain(count, 2, 0);
        }
    }

    /**
     * Seven branches. Of the first count, the last does not reach, and each one before it does until all between it and
     * the last are far, so that each round makes just one more far; the others reach with room to spare. When all
     * labels are less bytes nearer, the last one reaches, and so do all.
     */
    private static void chain(int count, int less, int far) {
        Bench b = new Bench();
        for (int k = 0; k < 7; k++) {
            b.with(1, "beqz x1," + (k < count ? (char) ('a' + k) : 'z'));
        }
        int firstLabel = 4100 - 4 * count - less;
        b.with(1, ".space 4", "z: .space " + (firstLabel - 32));
        for (int k = 0; k < count; k++) {
            b.with(1, (char) ('a' + k) + ": .space " + (k < count - 1 ? 8 : 0));
        }
        b.linked(firstLabel + 8 * (count - 1) + 4 * far);
        b.fars(far);
    }

    private static void mostBytes() {
        Bench.of("An image has at most 16384 bytes.");
        for (int module = 0; module < 2; module++) {
            for (int length : new int[] {16380, 16381, 16382, 16383, 16384}) {
                Bench b = zeros(new Bench(), module, length);
                b.linked(module == 0 ? length + 3 & ~3 : length);
            }
            for (int length : new int[] {16385, 16386, 16388, 18000}) {
                zeros(new Bench(), module, length).linkThrows(UnsupportedOperationException.class);
            }
        }
        // The last byte of the longest image, and none behind it.
        Bench last = zeros(new Bench(), 1, 16383).with(1, ".byte 77");
        last.linked(16384);
        last.bytes(16383, 77);
        Bench.thrown("image(16384)", IndexOutOfBoundsException.class, () -> last.image(16384));
        // The zeros before an instruction and before module 1 count.
        zeros(new Bench(), 0, 16377).with(0, "nop").linked(16384);
        zeros(new Bench(), 0, 16381).with(0, "nop").linkThrows(UnsupportedOperationException.class);
        zeros(new Bench(), 0, 16381).with(1, ".byte 1").linkThrows(UnsupportedOperationException.class);
        zeros(new Bench(), 0, 16381).with(1, "a:").linked(16384);
        zeros(new Bench(), 0, 16380).with(1, ".word 1").linked(16384);
        zeros(new Bench(), 0, 16380).with(1, ".word 1", ".byte 1").linkThrows(UnsupportedOperationException.class);
        // So do the bytes that a far branch has more.
        zeros(new Bench().with(0, "beqz x1,a"), 0, 16376).with(0, "a:").linked(16384);
        zeros(new Bench().with(0, "beqz x1,a"), 0, 16377).with(0, "a: nop").linkThrows(UnsupportedOperationException.class);
        zeros(new Bench().with(0, "beqz x1,a"), 0, 16380).with(0, "a:").linkThrows(UnsupportedOperationException.class);
        Bench most = new Bench();
        for (int k = 0; k < 16; k++) {
            most.with(0, ".space 6000").with(1, ".space 6000");
        }
        most.linkThrows(UnsupportedOperationException.class);
    }

    private static void refusals() {
        Bench.of("NoSuchElementException: a name is unknown; IllegalStateException: something is wrong;"
                + " UnsupportedOperationException: it is too long.");
        new Bench().with(0, "j a").linkThrows(NoSuchElementException.class);
        new Bench().with(0, ".global a").linkThrows(IllegalStateException.class);
        new Bench().with(0, "j a", ".byte 0", "a:").linkThrows(IllegalStateException.class);
        zeros(new Bench(), 0, 16385).linkThrows(UnsupportedOperationException.class);
        zeros(new Bench(), 0, 16384).linked(16384);
        // Refused, mended and right.
        Bench b = new Bench().with(0, "j a");
        b.linkThrows(NoSuchElementException.class);
        b.with(1, "a: nop");
        b.linkThrows(NoSuchElementException.class);
        b.with(1, ".global a", ".global b");
        b.linkThrows(IllegalStateException.class);
        b.with(1, ".byte 0", "b: j b");
        b.linked(16);
        b.with(1, ".byte 0", "c: .byte 0", "j c");
        b.linkThrows(IllegalStateException.class);
        b.with(0, ".space 6000", ".space 6000", ".space 6000");
        b.linkThrows(UnsupportedOperationException.class);
        b.clear(0);
        b.linkThrows(IllegalStateException.class);
        b.clear(1);
        b.linked(0);
    }

    private static void allLinesFirst() {
        Bench.of("(First all lines are looked at");
        String[] tooLong = {".space 6000", ".space 6000", ".space 6000"};
        String[] odd = {"j o", ".byte 0", "o:"};
        for (int module = 0; module < 2; module++) {
            for (int names = 0; names < 2; names++) {
                new Bench().with(module, tooLong).with(names, "j a").linkThrows(NoSuchElementException.class);
                new Bench().with(module, tooLong).with(names, ".global a").linkThrows(IllegalStateException.class);
                new Bench().with(module, odd).with(names, "j a").linkThrows(NoSuchElementException.class);
                new Bench().with(module, odd).with(module, tooLong).with(names, "j a").linkThrows(NoSuchElementException.class);
            }
        }
    }

    private static void moduleZeroFirst() {
        Bench.of("of module 0 first");
        new Bench().with(0, "j a").with(1, ".global b").linkThrows(NoSuchElementException.class);
        new Bench().with(0, ".global b").with(1, "j a").linkThrows(IllegalStateException.class);
        new Bench().with(1, ".global b").with(0, "", "", "", "j a").linkThrows(NoSuchElementException.class);
        new Bench().with(1, "j a").with(0, "", "", "", ".global b").linkThrows(IllegalStateException.class);
    }

    private static void firstOneSaysWhich() {
        Bench.of("the first one with a name that is unknown, or that is given away without a label, says which");
        for (int module = 0; module < 2; module++) {
            new Bench().with(module, "j a", ".global b").linkThrows(NoSuchElementException.class);
            new Bench().with(module, ".global b", "j a").linkThrows(IllegalStateException.class);
            new Bench().with(module, "nop", "la x1,a", "nop", ".global b").linkThrows(NoSuchElementException.class);
            new Bench().with(module, "nop", ".global b", "nop", "la x1,a").linkThrows(IllegalStateException.class);
            new Bench().with(module, "j c", "c: .global c", "beqz x1,a", ".global b").linkThrows(NoSuchElementException.class);
            new Bench().with(module, "j c", "c: .global c", ".global b", "beqz x1,a").linkThrows(IllegalStateException.class);
            // The same name, unknown as well as given away.
            new Bench().with(module, "j a", ".global a").linkThrows(NoSuchElementException.class);
            new Bench().with(module, ".global a", "j a").linkThrows(IllegalStateException.class);
        }
        new Bench().with(0, ".global a").with(1, "j a").linkThrows(IllegalStateException.class);
        new Bench().with(1, ".global a").with(0, "j a").linkThrows(NoSuchElementException.class);
    }

    private static void thenTheLength() {
        Bench.of("then the length");
        Bench odd = zeros(new Bench().with(0, "j a", ".byte 0", "a:"), 0, 16379);
        odd.linkThrows(IllegalStateException.class);
        Bench both = zeros(new Bench().with(0, "j a", ".byte 0", "a:"), 0, 16380);
        both.linkThrows(UnsupportedOperationException.class);
        new Bench().with(0, "j a", ".byte 0", "a:").with(1, ".space 6000", ".space 6000", ".space 6000")
                .linkThrows(UnsupportedOperationException.class);
        // The first odd ways that do not reach make the branch far, and the image too long by that; the last that
        // reach do not.
        zeros(new Bench().with(1, "beqz x1,a", ".space 4089", "a:"), 1, 12291).linkThrows(IllegalStateException.class);
        zeros(new Bench().with(1, "beqz x1,a", ".space 4091", "a:"), 1, 12285).linkThrows(IllegalStateException.class);
        zeros(new Bench().with(1, "beqz x1,a", ".space 4091", "a:"), 1, 12286).linkThrows(UnsupportedOperationException.class);
        zeros(new Bench().with(1, ".byte 0", "a: .space 4095", "beqz x1,a"), 1, 12284).linkThrows(IllegalStateException.class);
        zeros(new Bench().with(1, ".space 3", "a: .space 4097", "beqz x1,a"), 1, 12276).linkThrows(IllegalStateException.class);
        zeros(new Bench().with(1, ".space 3", "a: .space 4097", "beqz x1,a"), 1, 12277).linkThrows(UnsupportedOperationException.class);
    }

    private static void thenOddWays() {
        Bench.of("then ways that are odd.)");
        zeros(new Bench().with(1, "j a", "a:"), 1, 16380).linked(16384);
        zeros(new Bench().with(1, "j a", ".byte 0", "a:"), 1, 16379).linkThrows(IllegalStateException.class);
        zeros(new Bench(), 0, 16375).with(0, "a: .byte 0", "beqz x1,a").linkThrows(IllegalStateException.class);
    }

    private static void noImageWhenItThrows() {
        Bench.of("When this throws, there is no image.");
        String[][] wrongs = {{"j a"}, {".global a"}, {".space 6000", ".space 6000", ".space 6000"}, {"j a", ".byte 0", "a:"}};
        for (String[] wrong : wrongs) {
            Bench b = new Bench().with(0, "nop");
            b.linked(4);
            b.fars(0);
            b.with(1, wrong);
            b.noImage();
            Bench.thrown("link()", wrong == wrongs[0] ? NoSuchElementException.class
                    : wrong == wrongs[2] ? UnsupportedOperationException.class : IllegalStateException.class, () -> b.link());
            b.noImage();
            Bench.due("lines(0)", 1, () -> b.lines(0));
            Bench.due("lines(1)", wrong.length, () -> b.lines(1));
            b.clear(1);
            b.linked(4);
            b.words(0, 0x13);
        }
    }
}
