import java.util.function.IntUnaryOperator;
import java.util.function.LongSupplier;

/**
 * An object under test, and what the tests share: typing whole lines, asking for answers and
 * exceptions, and the count of wrong ones.
 */
final class Bench {
    private static final int MOST_CALLS = 512;

    private static int asked = 0;
    private static int wrong = 0;
    private static String sentence = "";

    private final TwoPass x = new TwoPass();
    private int calls = 0;

    /** The words of the document that the next answers are about; they are told with every wrong one. */
    static void of(String words) {
        sentence = words;
    }

    static void due(String what, long want, LongSupplier call) {
        String got;
        try {
            got = Long.toString(call.getAsLong());
        } catch (RuntimeException e) {
            got = e.getClass().getSimpleName();
        }
        same(what, Long.toString(want), got);
    }

    static void thrown(String what, Class<? extends RuntimeException> want, Runnable call) {
        String got = "no exception";
        try {
            call.run();
        } catch (RuntimeException e) {
            got = e.getClass().getSimpleName() + raiser(e);
        }
        same(what, want.getSimpleName(), got);
    }

    /** An exception must come from a throw of the class, not from the library or the machine below it. */
    private static String raiser(RuntimeException e) {
        boolean own = e.getStackTrace()[0].getClassName().startsWith("TwoPass") && e.getMessage() == null;
        return own ? "" : " of " + e.getStackTrace()[0];
    }

    static void same(String what, String want, String got) {
        asked++;
        if (!want.equals(got)) {
            wrong++;
            System.out.println(what + " answered " + got + ", due is " + want + (sentence.isEmpty() ? "" : " by: " + sentence));
        }
    }

    static void end() {
        System.out.println(asked + " answers, " + wrong + " of them wrong");
        if (wrong != 0 || asked == 0) {
            System.exit(1);
        }
    }

    static long packed(String text) {
        long bytes = 0;
        for (int k = 0; k < text.length(); k++) {
            bytes = bytes << 8 | text.charAt(k);
        }
        return bytes;
    }

    /** What an object answers after its last promised call is free, so no test may ask for it. */
    private TwoPass used() {
        calls++;
        if (calls > MOST_CALLS) {
            throw new AssertionError("the test asks for more than " + MOST_CALLS + " calls of one object");
        }
        return x;
    }

    int calls() {
        return calls;
    }

    void type(long bytes, int n) {
        used().type(bytes, n);
    }

    int line(int module) {
        return used().line(module);
    }

    void clear(int module) {
        used().clear(module);
    }

    int link() {
        return used().link();
    }

    int far() {
        return used().far();
    }

    int image(int i) {
        return used().image(i);
    }

    int place(int module, int k) {
        return used().place(module, k);
    }

    int show(int word) {
        return used().show(word);
    }

    int letter(int k) {
        return used().letter(k);
    }

    int lines(int module) {
        return used().lines(module);
    }

    void type(String text) {
        for (int from = 0; from < text.length(); from += 8) {
            String part = text.substring(from, Math.min(from + 8, text.length()));
            type(packed(part), part.length());
        }
    }

    int add(int module, String text) {
        type(text);
        return line(module);
    }

    /** Lines for one module, none of which may be refused. */
    Bench with(int module, String... texts) {
        for (String text : texts) {
            int before = lines(module);
            due("line(" + module + ") of '" + text + "'", before + 1, () -> add(module, text));
        }
        return this;
    }

    void refused(String text) {
        int before = lines(0);
        thrown("line(0) of '" + text + "'", IllegalArgumentException.class, () -> add(0, text));
        due("lines(0) after '" + text + "'", before, () -> lines(0));
    }

    /** Lines that are right, each in a new object. */
    static void rightLines(String... texts) {
        for (String text : texts) {
            new Bench().with(0, text);
        }
    }

    /** Lines that are wrong, each in a new object. */
    static void wrongLines(String... texts) {
        for (String text : texts) {
            new Bench().refused(text);
        }
    }

    void linked(int bytes) {
        due("link()", bytes, () -> link());
    }

    void linkThrows(Class<? extends RuntimeException> want) {
        thrown("link()", want, () -> link());
        noImage();
    }

    void noImage() {
        thrown("far() without an image", IllegalStateException.class, () -> far());
        thrown("image(0) without an image", IllegalStateException.class, () -> image(0));
        thrown("place(0, 0) without an image", IllegalStateException.class, () -> place(0, 0));
    }

    void fars(int want) {
        due("far()", want, () -> far());
    }

    void placed(int module, int k, int want) {
        due("place(" + module + ", " + k + ")", want, () -> place(module, k));
    }

    void bytes(int from, int... want) {
        for (int k = 0; k < want.length; k++) {
            int at = from + k;
            due("image(" + at + ")", want[k], () -> image(at));
        }
    }

    int wordAt(int at) {
        return image(at) | image(at + 1) << 8 | image(at + 2) << 16 | image(at + 3) << 24;
    }

    void words(int from, int... want) {
        for (int k = 0; k < want.length; k++) {
            int at = from + 4 * k;
            same("the word at " + at, Integer.toHexString(want[k]), Integer.toHexString(wordAt(at)));
        }
    }

    String shown(int word) {
        int count = show(word);
        StringBuilder text = new StringBuilder();
        for (int k = 0; k < count; k++) {
            text.append((char) letter(k));
        }
        thrown("letter(" + count + ") behind '" + text + "'", IndexOutOfBoundsException.class, () -> letter(count));
        return text.toString();
    }

    /** All that other calls tell of the object; the line that is typed alone can't be asked for. */
    String told() {
        StringBuilder text = new StringBuilder();
        text.append("lines ").append(lines(0)).append(' ').append(lines(1));
        text.append(", far").append(answers(1, k -> far()));
        text.append(", image").append(answers(100, k -> image(k)));
        text.append(", places").append(answers(17, k -> place(0, k))).append(" and").append(answers(17, k -> place(1, k)));
        text.append(", letters").append(answers(40, k -> letter(k)));
        return text.toString();
    }

    private static String answers(int most, IntUnaryOperator call) {
        StringBuilder text = new StringBuilder();
        for (int k = 0; k < most; k++) {
            try {
                text.append(' ').append(call.applyAsInt(k));
            } catch (RuntimeException e) {
                return text.append(e.getClass().getSimpleName()).toString();
            }
        }
        return text.toString();
    }
}
