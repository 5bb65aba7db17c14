import java.util.NoSuchElementException;

/** The boundary cases of handles and of promises 8 to 13, sentence by sentence. */
public final class HandlesEdgesTest {
    private static final Class<NoSuchElementException> NONE_SUCH = NoSuchElementException.class;
    private static final Class<UnsupportedOperationException> OTHER =
            UnsupportedOperationException.class;
    private static final Class<IndexOutOfBoundsException> OUT = IndexOutOfBoundsException.class;
    private static final Class<IllegalStateException> STATE = IllegalStateException.class;
    private static final int LEAST = Integer.MIN_VALUE;
    private static final int MOST = Integer.MAX_VALUE;
    private static final int[] WIDTHS = {0, 1, 8, 16, 32, 64};
    private static final Checks checks = new Checks();

    public static void main(String[] args) {
        handlesInOrder();
        callsThatEndHandles();
        callsThatDoNot();
        openAnswersItsWords();
        openWithTheWholeBudget();
        openEndsAllHandles();
        leftWithoutHandles();
        leftOfTheLatestOpen();
        goNoSuchHandle();
        goFromAnotherKind();
        goNegative();
        goBehindAList();
        goBehindAStruct();
        goNullPointer();
        goWith16Handles();
        elementNoSuchHandle();
        elementOfNoSuchList();
        elementNoSuchOne();
        elementWith16Handles();
        elementCostsNothing();
        aboutNoSuchHandle();
        aboutNoSuchPart();
        aboutEachKind();
        dataNoSuchHandle();
        dataOfAnotherList();
        dataNegative();
        dataBehindAList();
        dataBehindAStruct();
        dataWithoutSign();
        dataOfKind0();
        checks.end();
    }

    /** Root: struct with a data word and three pointers: structs, pointers, bytes. */
    private static PointedWords sample() {
        return Words.message(Words.struct(0, 1, 3), 50,
                Words.list(2, 7, 4), Words.list(6, 6, 2), Words.list(7, 2, 3),
                Words.tag(2, 1, 1), 70, 0, 71, 0,
                Words.list(1, 0, 1), 0,
                0xFF8001L);
    }

    /** Handles 0 the root, 1 the structs, 2 the pointers, 3 the bytes. */
    private static PointedWords opened() {
        PointedWords x = sample();
        x.open();
        for (int k = 0; k < 3; k++) {
            x.go(0, k);
        }
        return x;
    }

    /** 16 handles: 4 .. 15 stand for the first of the structs. */
    private static PointedWords full() {
        PointedWords x = opened();
        for (int h = 4; h < 16; h++) {
            x.element(1, 0);
        }
        return x;
    }

    /** "HANDLES 0 .. 15 stand for objects that were found, in the order in which they were made" */
    private static void handlesInOrder() {
        PointedWords x = sample();
        checks.dueThrow("at first none", NONE_SUCH, () -> x.about(0, 0));
        x.open();
        checks.dueThrow("1 is none yet", NONE_SUCH, () -> x.about(1, 0));
        checks.due("1", x.go(0, 0), 1);
        long[] due = {70, 71, 1};
        for (int h = 2; h < 16; h++) {
            checks.due("made", h % 3 == 2 ? x.go(0, 2) : x.element(1, h % 3), h);
        }
        checks.due("the root is 0", Words.parts(x, 0), "0 1 3 0 0 1 1");
        checks.due("the structs are 1", Words.parts(x, 1), "8 2 1 1 0 6 2");
        for (int h = 2; h < 16; h++) {
            checks.due("handle " + h, x.data(h, 0), due[h % 3]);
        }
        checks.dueThrow("16 is none", NONE_SUCH, () -> x.about(16, 0));
    }

    private static void ended(String what, PointedWords x) {
        checks.due(what + " ends them: left", x.left(), 0);
        for (int h = 0; h < 16; h++) {
            int handle = h;
            checks.dueThrow(what + " ends " + h, NONE_SUCH, () -> x.about(handle, 0));
        }
    }

    /** "Each call add, change, cut or adopt that is not refused ends them all." */
    private static void callsThatEndHandles() {
        for (int s = 0; s < 4; s++) {
            PointedWords x = full();
            x.add(s, 0);
            ended("add to " + s, x);
            PointedWords y = sample();
            Words.fill(y, s, 5);
            y.open();
            y.change(s, y.words(s) - 1, 5);
            ended("change to the same in " + s, y);
            PointedWords z = full();
            z.cut(s, z.words(s));
            ended("cut to as many in " + s, z);
        }
        PointedWords x = full();
        x.form();
        x.adopt();
        ended("adopt", x);
        PointedWords y = sample();
        y.form();
        y.adopt();
        y.open();
        y.adopt();
        ended("adopt of the same", y);
    }

    /** Other calls end none, nor do these when they are refused. */
    private static void callsThatDoNot() {
        PointedWords x = full();
        x.add(4, 0);
        x.change(0, 13, 0);
        x.cut(0, 14);
        x.adopt();
        x.budget(20);
        x.budget(64);
        x.form();
        x.formed(0);
        x.keep();
        x.same();
        x.words(0);
        x.word(0, 0);
        x.left();
        checks.due("left stays", x.left(), 51);
        checks.due("handle 0", Words.parts(x, 0), "0 1 3 0 0 1 1");
        checks.due("handle 15", Words.parts(x, 15), "0 1 1 0 0 6 2");
        x.cut(3, 0);
        ended("cut of an empty segment", x);
    }

    /** "Answers the number of its words." */
    private static void openAnswersItsWords() {
        checks.due("none", Words.message(Words.struct(-1, 0, 0)).open(), 0);
        checks.due("one data word", Words.message(Words.struct(0, 1, 0), 0).open(), 1);
        checks.due("one pointer", Words.message(Words.struct(0, 0, 1), 0).open(), 1);
        PointedWords x = Words.message(Words.struct(0, 31, 32));
        checks.due("63", Words.fill(x, 0, Words.repeated(0, 63)).open(), 63);
        checks.due("left by 63", x.left(), 0);
    }

    /** "The root is found, with the whole budget left" */
    private static void openWithTheWholeBudget() {
        PointedWords x = opened();
        checks.due("spent", x.left(), 51);
        checks.due("open", x.open(), 4);
        checks.due("whole again", x.left(), 59);
        x.budget(4);
        checks.due("just enough", x.open(), 4);
        checks.due("none left", x.left(), 0);
        checks.due("none left, open again", x.open(), 4);
        x.budget(3);
        checks.dueThrow("one too few", STATE, x::open);
    }

    /** "all handles end, it is handle 0" */
    private static void openEndsAllHandles() {
        PointedWords x = full();
        checks.due("open", x.open(), 4);
        checks.due("the root", Words.parts(x, 0), "0 1 3 0 0 1 1");
        for (int h = 1; h < 16; h++) {
            int handle = h;
            checks.dueThrow("no handle " + h, NONE_SUCH, () -> x.about(handle, 0));
        }
        checks.due("the next one", x.go(0, 2), 1);
    }

    /** "0 when there are no handles" */
    private static void leftWithoutHandles() {
        checks.due("new", new PointedWords().left(), 0);
        PointedWords x = sample();
        checks.due("before open", x.left(), 0);
        x.open();
        checks.due("after open", x.left(), 59);
        x.add(2, 0);
        checks.due("after their end", x.left(), 0);
        x.form();
        checks.due("after a form", x.left(), 0);
        x.change(0, 0, 0);
        checks.dueThrow("open", NONE_SUCH, x::open);
        checks.due("after an open that threw", x.left(), 0);
    }

    /** "What is left for handles of the latest open() that did not throw" */
    private static void leftOfTheLatestOpen() {
        PointedWords x = opened();
        x.budget(3);
        checks.dueThrow("open", STATE, x::open);
        checks.due("of the one before", x.left(), 51);
        checks.due("its handles stay", Words.parts(x, 3), "3 3 0 0 0 12 2");
        x.budget(9);
        x.open();
        checks.due("of the latest", x.left(), 5);
        x.go(0, 0);
        checks.due("all is spent", x.left(), 0);
        checks.dueThrow("no more", STATE, () -> x.go(0, 2));
        checks.due("none is left", x.left(), 0);
        checks.due("handles stay", Words.parts(x, 1), "8 2 1 1 0 6 2");
    }

    private static int[] noHandles(int count) {
        return new int[] {LEAST, LEAST + 1, -16, -1, count, count + 1, 16, 17, 256, MOST};
    }

    /** go: "NoSuchElementException when there is no such handle" */
    private static void goNoSuchHandle() {
        PointedWords x = opened();
        PointedWords y = full();
        for (int k : new int[] {LEAST, -1, 0, 99, MOST}) {
            for (int handle : noHandles(4)) {
                checks.dueThrow("of 4: go " + handle, NONE_SUCH, () -> x.go(handle, k));
            }
            for (int handle : noHandles(16)) {
                checks.dueThrow("of 16: go " + handle, NONE_SUCH, () -> y.go(handle, k));
            }
        }
        checks.due("the last handle", Checks.answer(() -> y.go(15, 0)), -1);
    }

    /** A root with a list of each kind, handle k + 1 standing for that of kind k. */
    private static PointedWords listOfEachKind(int n) {
        PointedWords x = Words.message(Words.struct(0, 0, 8));
        for (int kind = 0; kind < 8; kind++) {
            x.add(0, Words.list(7 - kind, kind, kind == 7 ? 0 : n));
        }
        x.add(0, Words.tag(n, 0, 0));
        Words.fill(x, 0, 0, 0);
        x.change(0, 7, Words.list(2, 6, n));
        x.open();
        for (int kind = 0; kind < 8; kind++) {
            x.go(0, kind);
        }
        return x;
    }

    /** go: "UnsupportedOperationException when it is a list of another kind" */
    private static void goFromAnotherKind() {
        for (int n = 0; n <= 2; n++) {
            PointedWords x = listOfEachKind(n);
            for (int kind = 0; kind < 8; kind++) {
                int handle = kind + 1;
                checks.due("of kind " + kind, x.about(handle, 0), kind + 1);
                for (int k : new int[] {LEAST, -1, 0, 1, 9, MOST}) {
                    Object want = kind != 6 ? "throws.UnsupportedOperationException"
                            : k < 0 || k >= n ? "throws.IndexOutOfBoundsException" : (Object) (-1);
                    checks.due("go from kind " + kind, Checks.answer(() -> x.go(handle, k)), want);
                }
            }
        }
    }

    /** go: "IndexOutOfBoundsException when k is negative" */
    private static void goNegative() {
        PointedWords x = full();
        for (int k : new int[] {LEAST, LEAST + 1, -2, -1}) {
            checks.dueThrow("of a struct", OUT, () -> x.go(0, k));
            checks.dueThrow("of an element", OUT, () -> x.go(4, k));
            checks.dueThrow("of pointers", OUT, () -> x.go(2, k));
        }
    }

    /** go: "... or the list has no element k" */
    private static void goBehindAList() {
        PointedWords x = opened();
        checks.due("the first", Checks.answer(() -> x.go(2, 0)), 4);
        checks.due("the last, null", Checks.answer(() -> x.go(2, 1)), -1);
        for (int k : new int[] {2, 3, 16, MOST}) {
            checks.dueThrow("behind", OUT, () -> x.go(2, k));
        }
        PointedWords y = Words.pointing(Words.list(0, 6, 0), Words.struct(-1, 0, 0));
        y.open();
        y.go(0, 0);
        checks.dueThrow("of none", OUT, () -> y.go(1, 0));
        PointedWords z = Words.pointing(Words.list(0, 6, 62), Words.repeated(0, 62));
        z.change(0, 63, Words.struct(-1, 0, 0));
        z.open();
        z.go(0, 0);
        checks.dueThrow("the 62nd, with none left", STATE, () -> z.go(1, 61));
        checks.dueThrow("a 63rd", OUT, () -> z.go(1, 62));
    }

    /** go: "NONE ... for one that a struct does not have (k being at least its p)" */
    private static void goBehindAStruct() {
        PointedWords x = full();
        for (int k : new int[] {3, 4, 65535, 65536, MOST - 1, MOST}) {
            checks.due("behind the root's", Checks.answer(() -> x.go(0, k)), -1);
            checks.due("behind an element's", Checks.answer(() -> x.go(4, k - 2)), -1);
        }
        PointedWords y = Words.message(Words.struct(0, 1, 0), Words.struct(-1, 0, 0));
        y.open();
        checks.due("of none", Checks.answer(() -> y.go(0, 0)), -1);
        PointedWords z = opened();
        checks.due("the last one", Checks.answer(() -> z.go(0, 2)), 4);
    }

    /** go: "NONE for a null pointer" */
    private static void goNullPointer() {
        PointedWords x = Words.message(Words.struct(0, 0, 3), 0, Words.list(1, 6, 2), 0, 0, 0);
        x.open();
        checks.due("the first", Checks.answer(() -> x.go(0, 0)), -1);
        checks.due("not null", Checks.answer(() -> x.go(0, 1)), 1);
        checks.due("the last", Checks.answer(() -> x.go(0, 2)), -1);
        checks.due("the first of a list", Checks.answer(() -> x.go(1, 0)), -1);
        checks.due("the last of a list", Checks.answer(() -> x.go(1, 1)), -1);
        checks.due("left", x.left(), 58);
        x.budget(3);
        x.open();
        checks.due("null with none left", Checks.answer(() -> x.go(0, 0)), -1);
        checks.dueThrow("not null with none left", STATE, () -> x.go(0, 1));
    }

    /** go: "when the pointer is there and not null, and there are 16 handles; and then ..." */
    private static void goWith16Handles() {
        PointedWords x = opened();
        for (int h = 4; h < 15; h++) {
            x.element(1, 0);
        }
        checks.due("the 16th", Checks.answer(() -> x.go(0, 2)), 15);
        checks.due("what it stands for", x.data(15, 1), 128L);
        checks.dueThrow("a 17th", STATE, () -> x.go(0, 2));
        checks.dueThrow("a 17th from pointers", STATE, () -> x.go(2, 0));
        checks.due("left", x.left(), 50);
        checks.due("null", Checks.answer(() -> x.go(2, 1)), -1);
        checks.due("not there", Checks.answer(() -> x.go(0, 3)), -1);
        checks.dueThrow("behind a list", OUT, () -> x.go(2, 2));
        checks.dueThrow("negative", OUT, () -> x.go(0, -1));
        checks.dueThrow("another kind", OTHER, () -> x.go(1, 0));
        checks.dueThrow("no such handle", NONE_SUCH, () -> x.go(16, 0));
        long[] notFound = {3, Words.struct(99, 1, 0), Words.far(3, 0), Words.list(-9, 7, 0)};
        for (long pointer : notFound) {
            PointedWords y = Words.message(Words.struct(0, 0, 2), pointer, Words.list(0, 0, 1));
            y.open();
            for (int h = 1; h < 16; h++) {
                y.go(0, 1);
            }
            checks.dueThrow("16 handles before finding", STATE, () -> y.go(0, 0));
        }
    }

    /** element: "NoSuchElementException when there is no such handle" */
    private static void elementNoSuchHandle() {
        PointedWords x = opened();
        PointedWords y = full();
        for (int k : new int[] {LEAST, -1, 0, MOST}) {
            for (int handle : noHandles(4)) {
                checks.dueThrow("of 4: " + handle, NONE_SUCH, () -> x.element(handle, k));
            }
            for (int handle : noHandles(16)) {
                checks.dueThrow("of 16: " + handle, NONE_SUCH, () -> y.element(handle, k));
            }
        }
    }

    /** element: "UnsupportedOperationException when it is no such list" */
    private static void elementOfNoSuchList() {
        for (int n = 0; n <= 2; n++) {
            PointedWords x = listOfEachKind(n);
            for (int k : new int[] {LEAST, -1, 0, 1, MOST}) {
                checks.dueThrow("of a struct", OTHER, () -> x.element(0, k));
                for (int kind = 0; kind < 7; kind++) {
                    int handle = kind + 1;
                    checks.dueThrow("of kind " + kind, OTHER, () -> x.element(handle, k));
                }
            }
        }
        PointedWords y = full();
        checks.dueThrow("of an element", OTHER, () -> y.element(4, 0));
    }

    /** element: "IndexOutOfBoundsException when it has no element k" */
    private static void elementNoSuchOne() {
        for (int n : new int[] {0, 1, 2}) {
            PointedWords x = listOfEachKind(n);
            for (int k : new int[] {LEAST, -2, -1, n, n + 1, 62, MOST}) {
                checks.dueThrow("element " + k + " of " + n, OUT, () -> x.element(8, k));
            }
            for (int k = 0; k < n; k++) {
                checks.due("element " + k + " of " + n, x.element(8, k), 9 + k);
            }
        }
        PointedWords y = Words.pointing(Words.list(0, 7, 0), Words.tag(61, 0, 0));
        y.open();
        y.go(0, 0);
        checks.due("the last of 61", y.element(1, 60), 2);
        checks.due("its parts", Words.parts(y, 2), "0 0 0 0 0 3 2");
        checks.dueThrow("a 62nd", OUT, () -> y.element(1, 61));
        PointedWords z = Words.pointing(Words.list(0, 7, 61), Words.tag(61, 1, 0));
        Words.fill(z, 0, Words.repeated(7, 60));
        z.add(0, 8);
        z.open();
        z.go(0, 0);
        checks.due("the last of 61 words", z.element(1, 60), 2);
        checks.due("its data", z.data(2, 0), 8L);
        checks.due("its place", z.about(2, 5), 63);
    }

    /** element: "IllegalStateException when there are 16 handles" */
    private static void elementWith16Handles() {
        PointedWords x = opened();
        for (int h = 4; h < 15; h++) {
            x.element(1, 0);
        }
        checks.due("the 16th", x.element(1, 1), 15);
        checks.due("its data", x.data(15, 0), 71L);
        checks.dueThrow("a 17th", STATE, () -> x.element(1, 0));
        checks.dueThrow("no such element", OUT, () -> x.element(1, 2));
        checks.dueThrow("a negative one", OUT, () -> x.element(1, -1));
        checks.dueThrow("no such list", OTHER, () -> x.element(2, 0));
        checks.dueThrow("no such handle", NONE_SUCH, () -> x.element(16, 0));
        checks.due("the 16th stays", x.data(15, 0), 71L);
    }

    /** element: "it costs nothing" */
    private static void elementCostsNothing() {
        PointedWords x = sample();
        x.budget(9);
        x.open();
        x.go(0, 0);
        checks.due("none is left", x.left(), 0);
        checks.due("an element", Checks.answer(() -> x.element(1, 0)), 2);
        checks.due("and another", Checks.answer(() -> x.element(1, 1)), 3);
        checks.due("none is left", x.left(), 0);
    }

    /** about: "NoSuchElementException when there is no such handle" */
    private static void aboutNoSuchHandle() {
        PointedWords x = opened();
        PointedWords y = full();
        for (int part : new int[] {LEAST, -1, 0, 6, 7, MOST}) {
            for (int handle : noHandles(4)) {
                checks.dueThrow("of 4: " + handle, NONE_SUCH, () -> x.about(handle, part));
            }
            for (int handle : noHandles(16)) {
                checks.dueThrow("of 16: " + handle, NONE_SUCH, () -> y.about(handle, part));
            }
        }
    }

    /** about: "IndexOutOfBoundsException when there is no such part" */
    private static void aboutNoSuchPart() {
        PointedWords x = full();
        for (int h = 0; h < 16; h++) {
            int handle = h;
            for (int part : new int[] {LEAST, LEAST + 6, -7, -1, 7, 8, 256, 65542, MOST}) {
                checks.dueThrow("part " + part, OUT, () -> x.about(handle, part));
            }
            checks.due("the first part", Checks.answer(() -> x.about(handle, 0)) instanceof Integer,
                    true);
            checks.due("the last part", Checks.answer(() -> x.about(handle, 6)), h == 0 ? 1 : 2);
        }
    }

    /** about: each part, "else 0", of structs, elements and lists of each kind, empty ones too */
    private static void aboutEachKind() {
        for (int n = 0; n <= 2; n++) {
            PointedWords x = listOfEachKind(n);
            checks.due("the root", Words.parts(x, 0), "0 0 8 0 0 1 1");
            for (int kind = 0; kind < 8; kind++) {
                int begin = kind == 7 ? 10 : kind == 6 ? 10 : 9;
                checks.due(n + " of kind " + kind, Words.parts(x, kind + 1),
                        kind + 1 + " " + n + " 0 0 0 " + begin + " 2");
            }
        }
        PointedWords x = full();
        checks.due("structs", Words.parts(x, 1), "8 2 1 1 0 6 2");
        checks.due("an element", Words.parts(x, 4), "0 1 1 0 0 6 2");
        for (int s = 0; s < 4; s++) {
            PointedWords y = Words.message(Words.farOfTwo(0, 1), Words.far(s, s == 0 ? 3 : 0),
                    Words.struct(0, 0, 0) | 4);
            y.open();
            checks.due("at the end of " + s, Words.parts(y, 0),
                    "0 0 0 0 " + s + " " + (s == 0 ? 3 : 0) + " 1");
        }
    }

    /** data: "NoSuchElementException when there is no such handle" */
    private static void dataNoSuchHandle() {
        PointedWords x = opened();
        PointedWords y = full();
        for (int k : new int[] {LEAST, -1, 0, MOST}) {
            for (int handle : noHandles(4)) {
                checks.dueThrow("of 4: " + handle, NONE_SUCH, () -> x.data(handle, k));
            }
            for (int handle : noHandles(16)) {
                checks.dueThrow("of 16: " + handle, NONE_SUCH, () -> y.data(handle, k));
            }
        }
    }

    /** data: "UnsupportedOperationException when it is another list" */
    private static void dataOfAnotherList() {
        for (int n = 0; n <= 2; n++) {
            PointedWords x = listOfEachKind(n);
            for (int k : new int[] {LEAST, -1, 0, 1, 2, MOST}) {
                checks.dueThrow("of pointers", OTHER, () -> x.data(7, k));
                checks.dueThrow("of structs", OTHER, () -> x.data(8, k));
            }
        }
    }

    /** data: "IndexOutOfBoundsException when k is negative" */
    private static void dataNegative() {
        PointedWords x = listOfEachKind(2);
        for (int k : new int[] {LEAST, LEAST + 1, -2, -1}) {
            for (int handle = 0; handle <= 6; handle++) {
                int asked = handle;
                checks.dueThrow("data(" + handle + ", " + k + ")", OUT, () -> x.data(asked, k));
            }
        }
        PointedWords y = full();
        checks.dueThrow("of an element", OUT, () -> y.data(4, -1));
    }

    /** data: "... or the list has no element k" */
    private static void dataBehindAList() {
        for (int n = 0; n <= 2; n++) {
            PointedWords x = listOfEachKind(n);
            for (int kind = 0; kind < 6; kind++) {
                int handle = kind + 1;
                for (int k : new int[] {n, n + 1, 63, 64, 1 << 26, 1 << 28, MOST}) {
                    checks.dueThrow(k + " of " + n + " of kind " + kind, OUT,
                            () -> x.data(handle, k));
                }
                if (n > 0) {
                    int last = n - 1;
                    checks.due("the last of kind " + kind, Checks.answer(() -> x.data(handle, last))
                            instanceof Long, true);
                }
            }
        }
    }

    /** data: "Data word k of a struct (0 when it has not so many)" */
    private static void dataBehindAStruct() {
        PointedWords x = Words.message(Words.struct(0, 2, 1), 5, Long.MIN_VALUE,
                Words.struct(0, 0, 0) | 4, 9);
        x.open();
        checks.due("the first", x.data(0, 0), 5L);
        checks.due("the last", x.data(0, 1), Long.MIN_VALUE);
        for (int k : new int[] {2, 3, 63, 64, 65535, MOST - 1, MOST}) {
            checks.due("behind: " + k, x.data(0, k), 0L);
        }
        x.go(0, 0);
        checks.due("of an empty one", x.data(1, 0), 0L);
        PointedWords y = full();
        checks.due("of an element", y.data(4, 0), 70L);
        checks.due("behind an element's", y.data(4, 1), 0L);
        checks.due("far behind an element's", y.data(4, MOST), 0L);
        PointedWords z = Words.message(Words.struct(0, 63, 0));
        Words.fill(z, 0, Words.repeated(-1, 63));
        z.open();
        checks.due("the last of 63", z.data(0, 62), -1L);
        checks.due("behind 63", z.data(0, 63), 0L);
    }

    /** data: "without sign, one of 64 bits as it is" */
    private static void dataWithoutSign() {
        for (int kind = 1; kind < 6; kind++) {
            int width = WIDTHS[kind];
            int inWord = 64 / width;
            long most = width == 64 ? -1L : (1L << width) - 1;
            long top = 1L << (width - 1);
            PointedWords ones = Words.pointing(Words.list(0, kind, 2 * inWord), -1, -1);
            ones.open();
            ones.go(0, 0);
            for (int k = 0; k < 2 * inWord; k++) {
                PointedWords x = Words.pointing(Words.list(0, kind, 2 * inWord), 0, 0);
                x.change(0, 2 + k / inWord, top << (k % inWord * width));
                x.open();
                x.go(0, 0);
                for (int other = 0; other < 2 * inWord; other++) {
                    checks.due("kind " + kind + ", element " + other, x.data(1, other),
                            other == k ? top : 0L);
                }
                checks.due("all ones, element " + k, ones.data(1, k), most);
            }
        }
    }

    /** data: "0 for kind 0" */
    private static void dataOfKind0() {
        PointedWords x = Words.pointing(Words.list(-1, 0, 62), -1);
        x.open();
        x.go(0, 0);
        checks.due("the first", x.data(1, 0), 0L);
        checks.due("the last", x.data(1, 61), 0L);
        checks.dueThrow("behind", OUT, () -> x.data(1, 62));
        PointedWords y = Words.pointing(Words.list(0, 0, 0));
        y.open();
        y.go(0, 0);
        checks.dueThrow("of none", OUT, () -> y.data(1, 0));
    }
}
