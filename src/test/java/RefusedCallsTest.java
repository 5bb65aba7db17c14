import java.util.function.Function;
import java.util.function.Supplier;

/**
 * "A call that throws, or answers false, changes nothing": for each refused call of each promise,
 * all that the other calls answer stays what it was.
 */
public final class RefusedCallsTest {
    private static final String OUT = "throws.IndexOutOfBoundsException";
    private static final String BAD = "throws.IllegalArgumentException";
    private static final String STATE = "throws.IllegalStateException";
    private static final String NONE_SUCH = "throws.NoSuchElementException";
    private static final String OTHER = "throws.UnsupportedOperationException";
    private static final int LEAST = Integer.MIN_VALUE;
    private static final int MOST = Integer.MAX_VALUE;
    private static final int[] NO_SEGMENTS = {LEAST, -1, 4, MOST};
    private static final Checks checks = new Checks();
    private static final Twins twins = new Twins(checks);

    public static void main(String[] args) {
        add();
        change();
        cut();
        questions();
        budget();
        openThatThrows();
        openForTooMuch();
        goWithoutAHandle();
        goWithoutAPointer();
        goThatFindsNothing();
        goWith16Handles();
        goTooDeep();
        element();
        about();
        data();
        formThatThrows();
        formThatThrowsHalfway();
        withoutAForm();
        sameThatIsFalse();
        checks.end();
    }

    /**
     * A message of 13 words: the root with a data word, structs, pointers and bytes. Segment 1 is
     * full, the budget is 50, and a form that is not this message's is the latest one and is kept.
     */
    private static PointedWords filled() {
        PointedWords x = Words.message(Words.struct(0, 2, 0), 8, 9);
        x.form();
        x.keep();
        x.cut(0, 0);
        Words.fill(x, 0, Words.struct(0, 1, 3), 50,
                Words.list(2, 7, 4), Words.list(6, 6, 2), Words.list(7, 2, 3),
                Words.tag(2, 1, 1), 70, 0, 71, 0,
                Words.list(1, 0, 1), 0,
                0xFF8001L);
        Words.fill(x, 1, Words.repeated(5, 64));
        x.budget(50);
        return x;
    }

    /** Handles 0 the root, 1 the structs, 2 the pointers, 3 the bytes, 4 a struct of handle 1. */
    private static PointedWords opened() {
        PointedWords x = filled();
        openAll(x);
        return x;
    }

    private static void openAll(PointedWords x) {
        x.open();
        for (int k = 0; k < 3; k++) {
            x.go(0, k);
        }
        x.element(1, 1);
    }

    /** As before, the latest form being another one than that which is kept. */
    private static PointedWords formed() {
        PointedWords x = filled();
        x.form();
        openAll(x);
        return x;
    }

    private static PointedWords withAllHandles() {
        PointedWords x = formed();
        for (int h = 5; h < 16; h++) {
            x.element(1, 0);
        }
        return x;
    }

    /** Handles, but no form. */
    private static PointedWords formless() {
        PointedWords x = Words.pointing(Words.struct(0, 1, 0), 7);
        x.open();
        return x;
    }

    private static void refused(String what, Function<PointedWords, Object> call, Object due) {
        twins.changesNothing(what + " of a form kept", RefusedCallsTest::opened, call, due);
        twins.changesNothing(what + " of another form", RefusedCallsTest::formed, call, due);
    }

    private static void refusedOfAll(String what, Function<PointedWords, Object> call,
            Object due) {
        twins.changesNothing(what + " of 16 handles", RefusedCallsTest::withAllHandles, call, due);
    }

    private static void refusedOfNew(String what, Function<PointedWords, Object> call,
            Object due) {
        twins.changesNothing(what + " of a new object", PointedWords::new, call, due);
    }

    private static void add() {
        for (int s : NO_SEGMENTS) {
            refused("add to " + s, x -> x.add(s, 3), -1);
            refusedOfNew("add to " + s, x -> x.add(s, 3), -1);
        }
        refused("add to a full segment", x -> x.add(1, 3), -1);
    }

    private static void change() {
        for (int s : NO_SEGMENTS) {
            refused("change in " + s, x -> x.change(s, 0, 3), false);
            refusedOfNew("change in " + s, x -> x.change(s, 0, 3), false);
        }
        for (int i : new int[] {LEAST, -1, 13, 63, 64, MOST}) {
            refused("change of word " + i, x -> x.change(0, i, 3), false);
        }
        for (int i : new int[] {LEAST, -1, 64, MOST}) {
            refused("change of word " + i + " of a full one", x -> x.change(1, i, 3), false);
        }
        refused("change of no word", x -> x.change(3, 0, 3), false);
        refusedOfNew("change of no word", x -> x.change(0, 0, 3), false);
    }

    private static void cut() {
        for (int s : NO_SEGMENTS) {
            refused("cut of " + s, x -> x.cut(s, 0), false);
            refusedOfNew("cut of " + s, x -> x.cut(s, 0), false);
        }
        for (int n : new int[] {LEAST, -1, 14, 64, MOST}) {
            refused("cut to " + n, x -> x.cut(0, n), false);
        }
        for (int n : new int[] {LEAST, -1, 65, MOST}) {
            refused("cut of a full one to " + n, x -> x.cut(1, n), false);
        }
        refused("cut of none to 1", x -> x.cut(2, 1), false);
        refusedOfNew("cut of none to 1", x -> x.cut(0, 1), false);
    }

    /** words, word, left and formed change nothing, whatever is asked. */
    private static void questions() {
        for (int s : NO_SEGMENTS) {
            refused("words(" + s + ")", x -> x.words(s), -1);
            refused("word(" + s + ", 0)", x -> x.word(s, 0), 0L);
        }
        for (int i : new int[] {LEAST, -1, 63, 64, MOST}) {
            refused("word(0, " + i + ")", x -> x.word(0, i), 0L);
            refused("formed(" + i + ")", x -> x.formed(i), 0L);
        }
        refused("left()", PointedWords::left, 38);
        refusedOfNew("left()", PointedWords::left, 0);
        refusedOfNew("formed(0)", x -> x.formed(0), 0L);
    }

    private static void budget() {
        for (int words : new int[] {LEAST, -1, 64, 256, MOST}) {
            refused("budget " + words, x -> x.budget(words), false);
            refusedOfNew("budget " + words, x -> x.budget(words), false);
        }
    }

    /** The words for segment 0, and what open() and form() throw of them. */
    private static void dueOfRoot(String want, long... words) {
        Supplier<PointedWords> kept = () -> emptied(words, false);
        Supplier<PointedWords> other = () -> emptied(words, true);
        String what = Words.text(words) + ": ";
        twins.changesNothing(what + "open", kept, PointedWords::open, want);
        twins.changesNothing(what + "open of another form", other, PointedWords::open, want);
        twins.changesNothing(what + "form", kept, PointedWords::form, want);
        twins.changesNothing(what + "form of another form", other, PointedWords::form, want);
    }

    private static PointedWords emptied(long[] words, boolean anotherForm) {
        PointedWords x = anotherForm ? formed() : opened();
        x.cut(0, 0);
        return Words.fill(x, 0, words);
    }

    private static void openThatThrows() {
        dueOfRoot(OUT);
        dueOfRoot(NONE_SUCH, 0);
        dueOfRoot(BAD, Words.list(0, 5, 1), 7);
        dueOfRoot(OUT, Words.far(2, 0));
        dueOfRoot(OUT, Words.farOfTwo(1, 63));
        dueOfRoot(BAD, 3);
        dueOfRoot(BAD, Words.farOfTwo(1, 62));
        dueOfRoot(OUT, Words.struct(0, 2, 0), 7);
        dueOfRoot(BAD, Words.list(0, 7, 0), 1);
        dueOfRoot(STATE, root51());
        refusedOfNew("open", PointedWords::open, OUT);
        refusedOfNew("form", PointedWords::form, OUT);
    }

    /** Costs 1 more than the budget. */
    private static long[] root51() {
        long[] words = Words.repeated(6, 52);
        words[0] = Words.struct(0, 51, 0);
        return words;
    }

    /** An open() that throws leaves the handles of the one before, and what is left for them. */
    private static void openForTooMuch() {
        for (int words = 0; words < 4; words++) {
            int budget = words;
            twins.changesNothing("open for " + words, () -> withBudget(opened(), budget),
                    PointedWords::open, STATE);
            twins.changesNothing("open of 16 for " + words,
                    () -> withBudget(withAllHandles(), budget), PointedWords::open, STATE);
            twins.changesNothing("form for " + words, () -> withBudget(formed(), budget),
                    PointedWords::form, STATE);
        }
        twins.changesNothing("form for 12", () -> withBudget(formed(), 12), PointedWords::form,
                STATE);
    }

    private static PointedWords withBudget(PointedWords x, int words) {
        x.budget(words);
        return x;
    }

    private static void goWithoutAHandle() {
        for (int handle : new int[] {LEAST, -1, 5, 15, 16, MOST}) {
            refused("go from " + handle, x -> x.go(handle, 0), NONE_SUCH);
        }
        refusedOfNew("go", x -> x.go(0, 0), NONE_SUCH);
    }

    private static void goWithoutAPointer() {
        for (int k : new int[] {LEAST, -1, 0, MOST}) {
            refused("go from structs", x -> x.go(1, k), OTHER);
            refused("go from bytes", x -> x.go(3, k), OTHER);
        }
        for (int k : new int[] {LEAST, -1}) {
            refused("go to " + k + " of a struct", x -> x.go(0, k), OUT);
            refused("go to " + k + " of pointers", x -> x.go(2, k), OUT);
        }
        for (int k : new int[] {2, MOST}) {
            refused("go to " + k + " of pointers", x -> x.go(2, k), OUT);
        }
        refused("go to a null pointer of pointers", x -> x.go(2, 1), -1);
        refused("go to a null pointer of an element", x -> x.go(4, 0), -1);
        refused("go behind a struct's pointers", x -> x.go(0, 3), -1);
        refused("go far behind them", x -> x.go(0, MOST), -1);
    }

    /** The root has these two pointers and further words; handle 1 is what the first leads to. */
    private static PointedWords pointing(long pointer, long... behind) {
        PointedWords x = formed();
        x.cut(0, 0);
        Words.fill(x, 0, Words.struct(0, 0, 2), Words.list(1, 0, 3), pointer);
        Words.fill(x, 0, behind);
        x.open();
        x.go(0, 0);
        return x;
    }

    private static void notFound(String want, long pointer, long... behind) {
        Supplier<PointedWords> maker = () -> pointing(pointer, behind);
        String what = pointer + " " + Words.text(behind) + ": ";
        twins.changesNothing(what + "go", maker, x -> x.go(0, 1), want);
        twins.changesNothing(what + "form", maker, PointedWords::form, want);
    }

    private static void goThatFindsNothing() {
        notFound(OUT, Words.far(4, 0));
        notFound(OUT, Words.far(0, 3));
        notFound(OUT, Words.farOfTwo(0, 2));
        notFound(BAD, 3);
        notFound(BAD, Words.far(0, 3), 0);
        notFound(BAD, Words.farOfTwo(0, 3), Words.far(0, 0), 0);
        notFound(OUT, Words.struct(-4, 0, 0));
        notFound(OUT, Words.struct(0, 1, 1), 6);
        notFound(OUT, Words.list(0, 5, 2), 6);
        notFound(OUT, Words.list(0, 7, 0));
        notFound(BAD, Words.list(0, 7, 0), 1);
        notFound(BAD, Words.list(0, 7, 1), Words.tag(2, 1, 0), 6);
        notFound(STATE, Words.list(0, 0, 46));
        notFound(STATE, Words.list(0, 7, 0), Words.tag(45, 0, 0));
    }

    private static void goWith16Handles() {
        refusedOfAll("go from a struct", x -> x.go(0, 2), STATE);
        refusedOfAll("go from pointers", x -> x.go(2, 0), STATE);
        refusedOfAll("go to a null pointer", x -> x.go(2, 1), -1);
        refusedOfAll("go behind pointers", x -> x.go(2, 2), OUT);
        refusedOfAll("go from 16", x -> x.go(16, 0), NONE_SUCH);
        refusedOfAll("element", x -> x.element(1, 0), STATE);
        refusedOfAll("element behind", x -> x.element(1, 2), OUT);
        refusedOfAll("element of 16", x -> x.element(16, 0), NONE_SUCH);
    }

    /** A ring, gone round to depth 8. */
    private static PointedWords ring() {
        PointedWords x = formed();
        x.change(0, 0, Words.struct(-1, 0, 1));
        x.open();
        for (int h = 0; h < 7; h++) {
            x.go(h, 0);
        }
        return x;
    }

    private static void goTooDeep() {
        twins.changesNothing("go to depth 9", RefusedCallsTest::ring, x -> x.go(7, 0), STATE);
        twins.changesNothing("form of a ring", RefusedCallsTest::ring, PointedWords::form, STATE);
    }

    private static void element() {
        for (int handle : new int[] {LEAST, -1, 5, 16, MOST}) {
            refused("element of " + handle, x -> x.element(handle, 0), NONE_SUCH);
        }
        for (int handle : new int[] {0, 2, 3, 4}) {
            refused("element of handle " + handle, x -> x.element(handle, 0), OTHER);
        }
        for (int k : new int[] {LEAST, -1, 2, MOST}) {
            refused("element " + k, x -> x.element(1, k), OUT);
        }
        refusedOfNew("element", x -> x.element(0, 0), NONE_SUCH);
    }

    private static void about() {
        for (int handle : new int[] {LEAST, -1, 5, 16, MOST}) {
            refused("about " + handle, x -> x.about(handle, 0), NONE_SUCH);
        }
        for (int part : new int[] {LEAST, -1, 7, MOST}) {
            refused("about part " + part, x -> x.about(0, part), OUT);
        }
        refusedOfNew("about", x -> x.about(0, 0), NONE_SUCH);
    }

    private static void data() {
        for (int handle : new int[] {LEAST, -1, 5, 16, MOST}) {
            refused("data of " + handle, x -> x.data(handle, 0), NONE_SUCH);
        }
        refused("data of structs", x -> x.data(1, 0), OTHER);
        refused("data of pointers", x -> x.data(2, 0), OTHER);
        for (int k : new int[] {LEAST, -1}) {
            refused("data " + k + " of a struct", x -> x.data(0, k), OUT);
            refused("data " + k + " of bytes", x -> x.data(3, k), OUT);
        }
        for (int k : new int[] {3, MOST}) {
            refused("data " + k + " of bytes", x -> x.data(3, k), OUT);
            refused("data " + k + " of a struct", x -> x.data(0, k), 0L);
        }
        refusedOfNew("data", x -> x.data(0, 0), NONE_SUCH);
    }

    /** form() throws for something below the root, there being handles. */
    private static void formThatThrows() {
        Supplier<PointedWords> maker = () -> {
            PointedWords x = filled();
            x.change(0, 11, 3);
            openAll(x);
            return x;
        };
        twins.changesNothing("form with handles", maker, PointedWords::form, BAD);
        Supplier<PointedWords> none = () -> {
            PointedWords x = formless();
            x.change(0, 1, 3);
            x.open();
            return x;
        };
        twins.changesNothing("form without one before", none, PointedWords::form, BAD);
    }

    /** form() throws after it has written nearly as many words as there can be. */
    private static void formThatThrowsHalfway() {
        Supplier<PointedWords> maker = () -> {
            PointedWords x = formed();
            x.budget(63);
            x.cut(0, 0);
            Words.fill(x, 0, Words.struct(0, 40, 2));
            Words.fill(x, 0, Words.repeated(-1, 40));
            Words.fill(x, 0, Words.list(1, 5, 20), Words.struct(60, 1, 0));
            Words.fill(x, 0, Words.repeated(-1, 20));
            x.open();
            return x;
        };
        twins.changesNothing("form halfway", maker, PointedWords::form, OUT);
    }

    private static void withoutAForm() {
        twins.changesNothing("adopt without a form", RefusedCallsTest::formless,
                PointedWords::adopt, false);
        twins.changesNothing("keep without a form", RefusedCallsTest::formless,
                PointedWords::keep, false);
        twins.changesNothing("same without a form", RefusedCallsTest::formless,
                PointedWords::same, false);
        refusedOfNew("adopt", PointedWords::adopt, false);
        refusedOfNew("keep", PointedWords::keep, false);
        refusedOfNew("same", PointedWords::same, false);
    }

    private static void sameThatIsFalse() {
        twins.changesNothing("same of another form", RefusedCallsTest::formed,
                PointedWords::same, false);
        twins.changesNothing("same of the one kept", RefusedCallsTest::opened,
                PointedWords::same, true);
    }
}
