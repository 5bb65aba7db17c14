import java.util.ArrayList;
import java.util.List;

/**
 * Words each of whose parts is the smallest, the largest or next to one that matters, put where a
 * pointer, a pad or a tag is looked for: the class and the model must answer the same.
 */
public final class EdgeWordsTest {
    private static final long[] OFFSETS = {-(1L << 29), -4, -3, -2, -1, 0, 1, 2, 60, 61, 62,
        (1L << 29) - 1};
    private static final long[] SIZES = {0, 1, 2, 61, 62, 63, 64, 32768, 65535};
    private static final long[] NUMBERS = {0, 1, 2, 3, 61, 62, 63, 64, 65, 496, 497, 3968, 3969,
        1L << 26, 1L << 28, (1L << 29) - 1};
    private static final long[] PLACES = {0, 1, 2, 3, 4, 62, 63, 64, (1L << 29) - 1};
    private static final long[] SEGMENTS = {0, 1, 3, 4, 1L << 31, (1L << 32) - 1};
    private static final long[] SECONDS = {0, 1, 2, 3, -1, Long.MIN_VALUE, Long.MAX_VALUE,
        Words.struct(-1, 0, 0), Words.struct(0, 1, 0), Words.struct(-3, 0, 1), Words.list(0, 1, 65),
        Words.list(0, 6, 1), Words.list(-1, 7, 1), Words.far(0, 0), Words.far(0, 3),
        Words.far(1, 0),
        Words.far(3, 64), Words.farOfTwo(0, 2), Words.tag(1, 1, 0), Words.tag(2, 0, 1),
        Words.tag(61, 0, 0), Words.tag(61, 1, 0), Words.tag((1 << 30) - 1, 0, 0),
        Words.tag(1 << 16, 65535, 1), Words.tag(0, 65535, 65535)};
    private static final int[] COUNTS = {3, 4, 64};
    private static final Checks checks = new Checks();

    public static void main(String[] args) {
        List<Long> pointers = pointers();
        for (long pointer : pointers) {
            for (long second : SECONDS) {
                for (int count : COUNTS) {
                    compare(pointer, second, count);
                }
            }
        }
        checks.end();
    }

    private static List<Long> pointers() {
        List<Long> words = new ArrayList<>();
        for (long b : OFFSETS) {
            for (long d : SIZES) {
                words.add(Words.struct(b, d, 0));
                words.add(Words.struct(b, 0, d));
                words.add(Words.struct(b, 1, d));
            }
            for (long n : NUMBERS) {
                for (int kind = 0; kind < 8; kind++) {
                    words.add(Words.list(b, kind, n));
                }
            }
        }
        for (long place : PLACES) {
            for (long segment : SEGMENTS) {
                words.add(Words.far(segment, place));
                words.add(Words.farOfTwo(segment, place));
            }
        }
        return words;
    }

    /** The root's pointer is word 1, what it may lead to word 2; words behind are of bits and 0. */
    private static void compare(long pointer, long second, int count) {
        PointedWords real = new PointedWords();
        Model model = new Model();
        for (int i = 0; i < count; i++) {
            long word = i == 0 ? Words.struct(0, 0, 1) : i == 1 ? pointer : i == 2 ? second
                    : i == 3 ? Words.struct(-2, 1, 0) : 0;
            real.add(0, word);
            model.add(0, word);
        }
        real.add(1, second);
        model.add(1, second);
        real.add(3, pointer);
        model.add(3, pointer);
        String what = pointer + ", " + second + ", " + count + ": ";
        checks.due(what + "open", Checks.answer(real::open), Checks.answer(model::open));
        Object gone = Checks.answer(() -> real.go(0, 0));
        checks.due(what + "go", gone, Checks.answer(() -> model.go(0, 0)));
        checks.due(what + "left", real.left(), model.left());
        if (gone.equals(1)) {
            compareFound(what, real, model);
        }
        checks.due(what + "form", Checks.answer(real::form), Checks.answer(model::form));
        for (int i = 0; i < 65; i++) {
            if (real.formed(i) != model.formed(i)) {
                checks.due(what + "formed " + i, real.formed(i), model.formed(i));
            }
        }
    }

    private static void compareFound(String what, PointedWords real, Model model) {
        for (int part = 0; part < 7; part++) {
            int asked = part;
            checks.due(what + "about " + part, Checks.answer(() -> real.about(1, asked)),
                    Checks.answer(() -> model.about(1, asked)));
        }
        int last = real.about(1, 1) - 1;
        for (int k : new int[] {-1, 0, last, last + 1}) {
            checks.due(what + "data " + k, Checks.answer(() -> real.data(1, k)),
                    Checks.answer(() -> model.data(1, k)));
            checks.due(what + "element " + k, Checks.answer(() -> real.element(1, k)),
                    Checks.answer(() -> model.element(1, k)));
            checks.due(what + "go on " + k, Checks.answer(() -> real.go(1, k)),
                    Checks.answer(() -> model.go(1, k)));
        }
    }
}
