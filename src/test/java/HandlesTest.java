import java.util.NoSuchElementException;

/** Promises 8 to 13: open, left, go, element, about, data. */
public final class HandlesTest {
    private static final Class<NoSuchElementException> NONE_SUCH = NoSuchElementException.class;
    private static final Class<UnsupportedOperationException> OTHER =
            UnsupportedOperationException.class;
    private static final Class<IndexOutOfBoundsException> OUT = IndexOutOfBoundsException.class;
    private static final Class<IllegalStateException> STATE = IllegalStateException.class;
    private static final int[] WILD = {Integer.MIN_VALUE, -1, 16, Integer.MAX_VALUE};
    private static final Checks checks = new Checks();

    public static void main(String[] args) {
        open();
        left();
        goFromStruct();
        goFromList();
        goOrder();
        element();
        elementOrder();
        about();
        dataOfStruct();
        dataOfLists();
        noSuchHandle();
        sixteenHandles();
        checks.end();
    }

    /** The root has a data word, a struct, a null pointer, a list of structs, one of pointers. */
    private static PointedWords sample() {
        return Words.message(
                Words.struct(0, 1, 4),
                50,
                Words.struct(3, 2, 0),
                0,
                Words.list(3, 7, 4),
                Words.list(7, 6, 2),
                60, 61,
                Words.tag(2, 1, 1), 70, Words.list(3, 2, 3), 71, 0,
                Words.list(0, 2, 3), 0xFF8001L);
    }

    private static void open() {
        PointedWords x = sample();
        checks.due("open", x.open(), 5);
        checks.due("the root", x.data(0, 0), 50L);
        x.go(0, 0);
        checks.due("open again", x.open(), 5);
        checks.dueThrow("open ends the others", NONE_SUCH, () -> x.about(1, 0));
        checks.due("open fills the budget", x.left(), 58);
        checks.due("an empty root", Words.message(Words.struct(-1, 0, 0)).open(), 0);
    }

    private static void left() {
        PointedWords x = sample();
        checks.due("no handles", x.left(), 0);
        x.open();
        checks.due("the root is paid", x.left(), 58);
        x.go(0, 0);
        checks.due("a struct is paid", x.left(), 56);
        x.go(0, 0);
        checks.due("and again", x.left(), 54);
        x.go(0, 2);
        checks.due("a list is paid", x.left(), 49);
        x.element(3, 0);
        checks.due("an element costs nothing", x.left(), 49);
        x.go(0, 1);
        x.go(0, 9);
        checks.due("null costs nothing", x.left(), 49);
        x.budget(3);
        checks.dueThrow("an open that throws", STATE, x::open);
        checks.due("it changes nothing", x.left(), 49);
        checks.due("the handles stay", x.about(3, 0), 8);
    }

    private static void goFromStruct() {
        PointedWords x = sample();
        x.open();
        checks.due("go", x.go(0, 0), 1);
        checks.due("its data", x.data(1, 1), 61L);
        checks.due("null", x.go(0, 1), PointedWords.NONE);
        checks.due("k is p", x.go(0, 4), PointedWords.NONE);
        checks.due("k is most", x.go(0, Integer.MAX_VALUE), PointedWords.NONE);
        checks.dueThrow("k is -1", OUT, () -> x.go(0, -1));
        checks.dueThrow("k is least", OUT, () -> x.go(0, Integer.MIN_VALUE));
        checks.due("the handles count on", x.go(0, 2), 2);
        checks.due("k behind a struct without pointers", x.go(1, 0), PointedWords.NONE);
        x.element(2, 0);
        checks.due("go from an element", x.go(3, 0), 4);
        checks.due("its list", x.data(4, 0), 1L);
        checks.due("k behind an element", x.go(3, 1), PointedWords.NONE);
        x.element(2, 1);
        checks.due("null in an element", x.go(5, 0), PointedWords.NONE);
    }

    private static void goFromList() {
        PointedWords x = sample();
        x.open();
        checks.due("a list of pointers", x.go(0, 3), 1);
        checks.due("its pointer", x.go(1, 0), 2);
        checks.due("leads to bytes", x.data(2, 1), 128L);
        checks.due("its depth", x.about(2, 6), 3);
        checks.dueThrow("its word 1 leads out", OUT, () -> x.go(1, 1));
        checks.due("what is left stays", x.left(), 55);
        checks.dueThrow("behind it", OUT, () -> x.go(1, 2));
        checks.dueThrow("before it", OUT, () -> x.go(1, -1));
        x.go(0, 2);
        checks.dueThrow("from a list of structs", OTHER, () -> x.go(3, 0));
        checks.dueThrow("from a list of bytes", OTHER, () -> x.go(2, 0));
        PointedWords y = Words.message(Words.struct(0, 0, 1), Words.list(0, 6, 1), 0);
        y.open();
        y.go(0, 0);
        checks.due("null in a list", y.go(1, 0), PointedWords.NONE);
    }

    private static void goOrder() {
        PointedWords x = Words.message(Words.struct(0, 0, 3), Words.list(2, 5, 1),
                Words.list(1, 6, 1), 3, 0);
        x.open();
        x.go(0, 0);
        x.go(0, 1);
        checks.dueThrow("no handle before a negative k", NONE_SUCH, () -> x.go(9, -1));
        checks.dueThrow("another kind before a negative k", OTHER, () -> x.go(1, -1));
        for (int h = 3; h < 16; h++) {
            x.go(0, 0);
        }
        checks.dueThrow("16 handles, a bad pointer", STATE, () -> x.go(0, 2));
        checks.dueThrow("16 handles, a negative k", OUT, () -> x.go(0, -1));
        checks.dueThrow("16 handles, k behind a list", OUT, () -> x.go(2, 1));
        checks.dueThrow("16 handles, another kind", OTHER, () -> x.go(1, 0));
        checks.dueThrow("16 handles, no such one", NONE_SUCH, () -> x.go(16, 0));
        checks.due("16 handles, null", x.go(2, 0), PointedWords.NONE);
        checks.due("16 handles, k is p", x.go(0, 3), PointedWords.NONE);
    }

    private static void element() {
        PointedWords x = sample();
        x.open();
        x.go(0, 2);
        checks.due("element 1", x.element(1, 1), 2);
        checks.due("element 0", x.element(1, 0), 3);
        checks.due("its data", x.data(2, 0), 71L);
        checks.due("its data", x.data(3, 0), 70L);
        checks.due("a struct", x.about(2, 0), 0);
        checks.due("its data words", x.about(2, 1), 1);
        checks.due("its pointers", x.about(2, 2), 1);
        checks.due("nothing in part 3", x.about(2, 3), 0);
        checks.due("its place", x.about(2, 5), 11);
        checks.due("its list's depth", x.about(2, 6), 2);
        PointedWords y = Words.message(Words.struct(0, 0, 1), Words.list(0, 7, 0),
                Words.tag(3, 0, 0));
        y.open();
        y.go(0, 0);
        checks.due("an empty element", y.element(1, 2), 2);
        checks.due("its place", y.about(2, 5), 3);
        checks.due("its data", y.data(2, 0), 0L);
        checks.dueThrow("behind", OUT, () -> y.element(1, 3));
    }

    private static void elementOrder() {
        PointedWords x = sample();
        x.open();
        x.go(0, 2);
        x.go(0, 3);
        checks.dueThrow("no handle", NONE_SUCH, () -> x.element(3, -1));
        checks.dueThrow("of a struct", OTHER, () -> x.element(0, -1));
        checks.dueThrow("of pointers", OTHER, () -> x.element(2, 0));
        checks.dueThrow("k behind", OUT, () -> x.element(1, 2));
        checks.dueThrow("k below 0", OUT, () -> x.element(1, -1));
        for (int wild : WILD) {
            checks.dueThrow("k wild", OUT, () -> x.element(1, wild));
        }
        for (int h = 3; h < 16; h++) {
            checks.due("element", x.element(1, h % 2), h);
        }
        checks.dueThrow("16 handles", STATE, () -> x.element(1, 0));
        checks.dueThrow("16 handles, k behind", OUT, () -> x.element(1, 2));
        checks.dueThrow("16 handles, of a struct", OTHER, () -> x.element(0, 0));
        checks.dueThrow("16 handles, of no handle", NONE_SUCH, () -> x.element(16, 0));
        checks.due("the last handle stays", x.data(15, 0), 71L);
    }

    private static void parts(PointedWords x, int handle, int... want) {
        for (int part = 0; part < want.length; part++) {
            int asked = part;
            checks.due("about(" + handle + ", " + part + ")",
                    Checks.answer(() -> x.about(handle, asked)), want[part]);
        }
    }

    private static void about() {
        PointedWords x = sample();
        x.open();
        x.go(0, 0);
        x.go(0, 2);
        x.go(0, 3);
        x.go(3, 0);
        parts(x, 0, 0, 1, 4, 0, 0, 1, 1);
        parts(x, 1, 0, 2, 0, 0, 0, 6, 2);
        parts(x, 2, 8, 2, 1, 1, 0, 9, 2);
        parts(x, 3, 7, 2, 0, 0, 0, 13, 2);
        parts(x, 4, 3, 3, 0, 0, 0, 14, 3);
        PointedWords y = Words.message(Words.far(3, 1));
        Words.fill(y, 3, 0, Words.struct(0, 1, 2), 0, 0, 0);
        y.open();
        parts(y, 0, 0, 1, 2, 0, 3, 2, 1);
        checks.dueThrow("part 7", OUT, () -> x.about(0, 7));
        for (int wild : WILD) {
            checks.dueThrow("part wild", OUT, () -> x.about(0, wild));
            checks.dueThrow("no handle before no part", NONE_SUCH, () -> x.about(5, wild));
        }
    }

    private static void dataOfStruct() {
        PointedWords x = sample();
        x.open();
        x.go(0, 0);
        checks.due("data", x.data(1, 0), 60L);
        checks.due("data", x.data(1, 1), 61L);
        checks.due("behind the data", x.data(1, 2), 0L);
        checks.due("the root's pointers are no data", x.data(0, 1), 0L);
        checks.due("far behind", x.data(0, Integer.MAX_VALUE), 0L);
        checks.dueThrow("negative", OUT, () -> x.data(0, -1));
        checks.dueThrow("least", OUT, () -> x.data(0, Integer.MIN_VALUE));
        PointedWords y = Words.message(Words.struct(0, 1, 0), Long.MIN_VALUE);
        y.open();
        checks.due("a word with sign", y.data(0, 0), Long.MIN_VALUE);
    }

    private static void dataOfLists() {
        long first = 0x8877665544332211L;
        long second = 0xFFEEDDCCBBAA9988L;
        long[][] due = {
            {0, 0, 0},
            {1, 0, 1, 66, 0, 67, 1, 127, 1, 4, 1, 3, 0},
            {2, 0, 0x11, 7, 0x88, 8, 0x88, 15, 0xFF},
            {3, 0, 0x2211, 3, 0x8877, 4, 0x9988, 7, 0xFFEE},
            {4, 0, 0x44332211L, 1, 0x88776655L, 2, 0xBBAA9988L, 3, 0xFFEEDDCCL},
            {5, 0, first, 1, second}};
        int[] number = {7, 128, 16, 8, 4, 2};
        for (long[] row : due) {
            int kind = (int) row[0];
            PointedWords x = Words.message(Words.struct(0, 0, 1),
                    Words.list(0, kind, number[kind]), first, second, -1);
            x.open();
            x.go(0, 0);
            for (int i = 1; i < row.length; i += 2) {
                checks.due("kind " + kind + ", element " + row[i], x.data(1, (int) row[i]),
                        row[i + 1]);
            }
            checks.dueThrow("behind the list", OUT, () -> x.data(1, number[kind]));
            checks.dueThrow("far behind it", OUT, () -> x.data(1, Integer.MAX_VALUE));
            checks.dueThrow("before it", OUT, () -> x.data(1, -1));
        }
        PointedWords y = sample();
        y.open();
        y.go(0, 2);
        y.go(0, 3);
        checks.dueThrow("of structs", OTHER, () -> y.data(1, -1));
        checks.dueThrow("of pointers", OTHER, () -> y.data(2, 0));
    }

    private static void noSuchHandle() {
        PointedWords x = sample();
        x.open();
        for (int handle : new int[] {-1, 1, 15, 16, Integer.MIN_VALUE, Integer.MAX_VALUE}) {
            checks.dueThrow("go", NONE_SUCH, () -> x.go(handle, 0));
            checks.dueThrow("element", NONE_SUCH, () -> x.element(handle, 0));
            checks.dueThrow("about", NONE_SUCH, () -> x.about(handle, 0));
            checks.dueThrow("data", NONE_SUCH, () -> x.data(handle, 0));
        }
    }

    private static void sixteenHandles() {
        PointedWords x = sample();
        x.open();
        for (int h = 1; h < 16; h++) {
            checks.due("go", x.go(0, 0), h);
        }
        checks.due("left", x.left(), 28);
        checks.dueThrow("a 17th", STATE, () -> x.go(0, 0));
        checks.due("it costs nothing", x.left(), 28);
        checks.due("the 16th", x.data(15, 1), 61L);
        checks.due("open again", x.open(), 5);
        checks.due("go again", x.go(0, 0), 1);
    }
}
