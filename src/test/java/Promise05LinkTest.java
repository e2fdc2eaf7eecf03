import java.util.NoSuchElementException;

public final class Promise05LinkTest {
    public static void main(String[] args) {
        lengths();
        names();
        whichComesFirst();
        tooLong();
        oddWays();
        again();
        Bench.end();
    }

    private static void lengths() {
        new Bench().linked(0);
        new Bench().with(0, "", "a:", ".space 0", "# nothing").linked(0);
        new Bench().with(0, ".byte 1").linked(4);
        new Bench().with(1, ".byte 1").linked(1);
        new Bench().with(0, ".byte 1").with(1, "a:").linked(4);
        new Bench().with(0, ".word 1", ".byte 1").with(1, ".word 1", ".byte 2").linked(13);
        new Bench().with(0, "nop", ".space 3", "nop").with(1, ".space 6").linked(18);
        new Bench().with(1, ".byte 1", "li x1,2048", ".byte 1", "la x1,a", ".byte 1", "a:").linked(25);
    }

    private static void names() {
        for (String use : new String[] {"j a", "call a", "jal x5,a", "beq x1,x2,a", "bne x1,x2,a", "blt x1,x2,a", "bge x1,x2,a",
            "beqz x1,a", "bnez x1,a", "la x1,a"}) {
            int bytes = use.startsWith("la") ? 8 : 4;
            new Bench().with(0, use).linkThrows(NoSuchElementException.class);
            new Bench().with(1, use).linkThrows(NoSuchElementException.class);
            new Bench().with(0, use, "a:").linked(bytes);
            new Bench().with(0, "a:", use).linked(bytes);
            new Bench().with(0, use).with(1, "a:").linkThrows(NoSuchElementException.class);
            new Bench().with(1, use).with(0, "a:").linkThrows(NoSuchElementException.class);
            new Bench().with(0, use).with(1, "a:", ".global a").linked(bytes);
            new Bench().with(0, use).with(1, ".global a", "a:").linked(bytes);
            new Bench().with(1, use).with(0, "a:", ".global a").linked(bytes);
            new Bench().with(0, use, "aa:", "b:").with(1, "ab:", ".global ab").linkThrows(NoSuchElementException.class);
        }
        new Bench().with(0, "j a").with(1, "a:", "b:", ".global b").linkThrows(NoSuchElementException.class);
        new Bench().with(0, ".global a").linkThrows(IllegalStateException.class);
        new Bench().with(1, ".global a").linkThrows(IllegalStateException.class);
        new Bench().with(0, ".global a").with(1, "a:", ".global a").linkThrows(IllegalStateException.class);
        new Bench().with(0, ".global a", "a:", ".global a").with(1, "a:", ".global a").linked(0);

        Bench own = new Bench().with(0, "a: nop", ".global a", "j a").with(1, "nop", "j a", "a:", ".global a");
        own.linked(16);
        own.words(4, 0xffdff06f);
        own.words(12, 0x0040006f);
        Bench hidden = new Bench().with(0, "a: nop", ".global a").with(1, "j a", "a:");
        hidden.linked(8);
        hidden.words(4, 0x0040006f);
    }

    private static void whichComesFirst() {
        new Bench().with(0, "j a", ".global b").linkThrows(NoSuchElementException.class);
        new Bench().with(0, ".global b", "j a").linkThrows(IllegalStateException.class);
        new Bench().with(1, ".global b").with(0, "nop", "j a").linkThrows(NoSuchElementException.class);
        new Bench().with(1, "j a").with(0, "nop", ".global b").linkThrows(IllegalStateException.class);
        String[] long3 = {".space 6000", ".space 6000", ".space 6000"};
        new Bench().with(0, long3).with(0, "j a").linkThrows(NoSuchElementException.class);
        new Bench().with(0, long3).with(1, ".global a").linkThrows(IllegalStateException.class);
        new Bench().with(0, long3).with(0, "j a", ".byte 0", "a:").linkThrows(UnsupportedOperationException.class);
        new Bench().with(0, "j a", ".byte 0", "a:").with(1, "j b").linkThrows(NoSuchElementException.class);
    }

    private static void tooLong() {
        String[] long2 = {".space 6000", ".space 6000"};
        new Bench().with(0, long2).with(0, ".space 4384").linked(16384);
        new Bench().with(0, long2).with(0, ".space 4385").linkThrows(UnsupportedOperationException.class);
        new Bench().with(0, long2).with(1, ".space 4384").linked(16384);
        new Bench().with(0, long2).with(1, ".space 4384", ".byte 0").linkThrows(UnsupportedOperationException.class);
        new Bench().with(0, long2).with(0, ".space 4381").linked(16384);
        new Bench().with(1, long2).with(1, ".space 4381").linked(16381);
        Bench all = new Bench();
        for (int k = 0; k < 16; k++) {
            all.with(0, ".space 6000").with(1, ".space 6000");
        }
        all.linkThrows(UnsupportedOperationException.class);
        // The four bytes that a far branch has more are those that are too many.
        new Bench().with(0, "beqz x1,a").with(0, long2).with(0, ".space 4376", "a:").linked(16384);
        new Bench().with(0, "beqz x1,a").with(0, long2).with(0, ".space 4380", "a:").linkThrows(UnsupportedOperationException.class);
        // An odd way that does not reach makes a branch far as well, before it is found to be odd.
        new Bench().with(1, "beqz x1,a", ".space 4091", "a:", ".space 6000", ".space 6000", ".space 285")
                .linkThrows(IllegalStateException.class);
        new Bench().with(1, "beqz x1,a", ".space 4091", "a:", ".space 6000", ".space 6000", ".space 286")
                .linkThrows(UnsupportedOperationException.class);
    }

    private static void oddWays() {
        for (String use : new String[] {"j a", "call a", "jal x5,a", "beq x1,x2,a", "bnez x1,a"}) {
            new Bench().with(0, use, ".byte 0", "a: .byte 0").linkThrows(IllegalStateException.class);
            new Bench().with(0, ".byte 0", "a:", use).linkThrows(IllegalStateException.class);
            new Bench().with(0, use).with(1, ".space 3", "a: .word 0", ".global a").linkThrows(IllegalStateException.class);
            new Bench().with(0, use, ".space 2", "a:").linked(8);
            new Bench().with(0, use, ".byte 0", "a: nop").linked(12);
            new Bench().with(0, use, ".space 5001", "a:").linkThrows(IllegalStateException.class);
        }
        new Bench().with(0, "la x1,a", ".byte 0", "a:").linked(12);
        new Bench().with(0, ".byte 0", "a: .global a").linked(4);
    }

    private static void again() {
        Bench b = new Bench().with(0, "nop");
        b.linked(4);
        b.linked(4);
        b.words(0, 0x13);
        b.with(0, "j a");
        b.linkThrows(NoSuchElementException.class);
        b.linkThrows(NoSuchElementException.class);
        b.with(0, "a:");
        b.linked(8);

        // A name that was near, then far, then near again, as the other module changes.
        Bench c = new Bench().with(0, "beqz x1,a").with(1, ".space 5000", "a:", ".global a");
        c.linked(5008);
        Bench.due("far()", 1, () -> c.far());
        c.clear(1);
        c.with(1, "a: nop", ".global a");
        c.linked(8);
        Bench.due("far()", 0, () -> c.far());
        c.words(0, 0x00008263, 0x13);
        // What stood here is gone: these zeros are not what was linked before.
        c.clear(0);
        c.with(0, ".space 8");
        c.linked(12);
        c.words(0, 0, 0, 0x13);
    }
}
