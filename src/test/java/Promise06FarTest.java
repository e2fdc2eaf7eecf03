public final class Promise06FarTest {
    public static void main(String[] args) {
        reach();
        oppositeQuestions();
        oneMakesAnotherFar();
        acrossModules();
        many();
        Bench.end();
    }

    private static void reach() {
        Bench most = new Bench().with(1, "beq x1,x2,a", ".space 4090", "a:");
        most.linked(4094);
        most.fars(0);
        most.words(0, 0x7e208fe3);

        Bench above = new Bench().with(1, "beq x1,x2,a", ".space 4092", "a:");
        above.linked(4100);
        above.fars(1);
        above.words(0, 0x00209463, 0x0000106f);

        Bench least = new Bench().with(0, "a: .space 4096", "beq x1,x2,a");
        least.linked(4100);
        least.fars(0);
        least.words(4096, 0x80208063);

        Bench below = new Bench().with(0, "a: .space 4097", "beq x1,x2,a");
        below.linked(4108);
        below.fars(1);
        below.words(4100, 0x00209463, 0xff9fe06f);

        Bench jumps = new Bench().with(0, "j a", "call a", "la x1,a", ".space 6000", ".space 6000", "a: ret");
        jumps.linked(12020);
        jumps.fars(0);
    }

    private static void oppositeQuestions() {
        Bench b = new Bench().with(0, "beq x1,x2,a", "bne x3,x4,a", "blt x5,x6,a", "bge x7,x8,a", "beqz x9,a", "bnez x10,a",
                ".space 6000", "a:");
        b.linked(6048);
        b.fars(6);
        int[] questions = {0x00209463, 0x00418463, 0x0062d463, 0x0083c463, 0x00049463, 0x00050463};
        for (int k = 0; k < questions.length; k++) {
            b.words(8 * k, questions[k]);
            Bench.same("the jump at " + (8 * k + 4), "jal x0," + (6048 - 8 * k - 4), b.shown(b.wordAt(8 * k + 4)));
            b.placed(0, k, 8 * k);
        }
    }

    private static void oneMakesAnotherFar() {
        Bench b = new Bench().with(0, "beq x1,x2,a", "beq x3,x4,b", ".space 4084", "a:", ".space 4000", "b:");
        b.linked(4096 + 4 + 4000);
        b.fars(2);
        b.placed(0, 1, 8);
        b.placed(0, 3, 4100);
        // Without the far one between them the first one reaches.
        Bench c = new Bench().with(0, "beq x1,x2,a", "j b", ".space 4084", "a:", ".space 4000", "b:");
        c.linked(4092 + 4000);
        c.fars(0);
        // A chain: each reaches until the one behind it is far; the last does not from the start.
        Bench d = new Bench().with(1, "beqz x1,a", "beqz x1,b", "beqz x1,c", "beqz x1,d", ".space 4076", "a: nop", "b: nop",
                "c: nop", ".space 8", "d:");
        d.linked(32 + 4076 + 12 + 8);
        d.fars(4);
        Bench e = new Bench().with(1, "beqz x1,a", "beqz x1,b", "beqz x1,c", "beqz x1,d", ".space 4076", "a: nop", "b: nop",
                "c: nop", "d:");
        e.linked(16 + 4076 + 12);
        e.fars(0);
        // Backward likewise.
        Bench f = new Bench().with(0, "a: .space 8", "b: .space 4088", "beqz x1,a", "beqz x1,a", "beqz x1,b");
        f.linked(4096 + 4 + 8 + 8);
        f.fars(2);
    }

    private static void acrossModules() {
        Bench b = new Bench().with(0, "a: .space 3000", ".global a", "blt x1,x2,b").with(1, ".space 5000", "b: bge x1,x2,a",
                ".global b");
        b.linked(3008 + 5000 + 8);
        b.fars(2);
        b.words(3000, 0x0020d463);
        b.words(8008, 0x0020c463);
        Bench.same("the first jump", "jal x0,5004", b.shown(b.wordAt(3004)));
        Bench.same("the second jump", "jal x0,-8012", b.shown(b.wordAt(8012)));
    }

    private static void many() {
        Bench b = new Bench();
        for (int k = 0; k < 14; k++) {
            b.with(0, "beqz x1,a").with(1, "bnez x1,b");
        }
        b.with(0, "b:", ".global b").with(1, ".space 6000", "a: .global a");
        b.linked(8 * 14 + 4 * 14 + 6000);
        b.fars(14);
        b.clear(1);
        b.noImage();
    }
}
