import java.util.function.LongSupplier;

/** What the tests share: typing whole lines, asking for answers and exceptions, and the count of wrong ones. */
final class Bench {
    private static int asked = 0;
    private static int wrong = 0;

    final TwoPass x = new TwoPass();

    static void due(String what, long want, LongSupplier call) {
        String got;
        try {
            got = Long.toString(call.getAsLong());
        } catch (RuntimeException e) {
            got = e.getClass().getSimpleName();
        }
        same(what, Long.toString(want), got);
    }

    static void thrown(String what, Class<? extends RuntimeException> want, Runnable call) {
        String got = "no exception";
        try {
            call.run();
        } catch (RuntimeException e) {
            got = e.getClass().getSimpleName() + raiser(e);
        }
        same(what, want.getSimpleName(), got);
    }

    /** An exception must come from a throw of the class, not from the library or the machine below it. */
    private static String raiser(RuntimeException e) {
        boolean own = e.getStackTrace()[0].getClassName().startsWith("TwoPass") && e.getMessage() == null;
        return own ? "" : " of " + e.getStackTrace()[0];
    }

    static void same(String what, String want, String got) {
        asked++;
        if (!want.equals(got)) {
            wrong++;
            System.out.println(what + " answered " + got + ", due is " + want);
        }
    }

    static void end() {
        System.out.println(asked + " answers, " + wrong + " of them wrong");
        if (wrong != 0 || asked == 0) {
            System.exit(1);
        }
    }

    static long packed(String text) {
        long bytes = 0;
        for (int k = 0; k < text.length(); k++) {
            bytes = bytes << 8 | text.charAt(k);
        }
        return bytes;
    }

    void type(String text) {
        for (int from = 0; from < text.length(); from += 8) {
            String part = text.substring(from, Math.min(from + 8, text.length()));
            x.type(packed(part), part.length());
        }
    }

    int add(int module, String text) {
        type(text);
        return x.line(module);
    }

    /** Lines for one module, none of which may be refused. */
    Bench with(int module, String... texts) {
        for (String text : texts) {
            int before = x.lines(module);
            due("line(" + module + ") of '" + text + "'", before + 1, () -> add(module, text));
        }
        return this;
    }

    void refused(String text) {
        int before = x.lines(0);
        thrown("line(0) of '" + text + "'", IllegalArgumentException.class, () -> add(0, text));
        due("lines(0) after '" + text + "'", before, () -> x.lines(0));
    }

    void linked(int bytes) {
        due("link()", bytes, () -> x.link());
    }

    void linkThrows(Class<? extends RuntimeException> want) {
        thrown("link()", want, () -> x.link());
        noImage();
    }

    void noImage() {
        thrown("far() without an image", IllegalStateException.class, () -> x.far());
        thrown("image(0) without an image", IllegalStateException.class, () -> x.image(0));
        thrown("place(0, 0) without an image", IllegalStateException.class, () -> x.place(0, 0));
    }

    void placed(int module, int k, int want) {
        due("place(" + module + ", " + k + ")", want, () -> x.place(module, k));
    }

    int wordAt(int at) {
        return x.image(at) | x.image(at + 1) << 8 | x.image(at + 2) << 16 | x.image(at + 3) << 24;
    }

    void words(int from, int... want) {
        for (int k = 0; k < want.length; k++) {
            int at = from + 4 * k;
            same("the word at " + at, Integer.toHexString(want[k]), Integer.toHexString(wordAt(at)));
        }
    }

    String shown(int word) {
        int count = x.show(word);
        StringBuilder text = new StringBuilder();
        for (int k = 0; k < count; k++) {
            text.append((char) x.letter(k));
        }
        thrown("letter(" + count + ") behind '" + text + "'", IndexOutOfBoundsException.class, () -> x.letter(count));
        return text.toString();
    }
}
