import java.util.NoSuchElementException;

/** The term "found": every kind of pointer, each exception, their order, depth and cost. */
public final class FindingTest {
    private static final Class<IndexOutOfBoundsException> OUT = IndexOutOfBoundsException.class;
    private static final Class<IllegalArgumentException> BAD = IllegalArgumentException.class;
    private static final Class<IllegalStateException> STATE = IllegalStateException.class;
    private static final Checks checks = new Checks();

    public static void main(String[] args) {
        structs();
        flatLists();
        pointerLists();
        structLists();
        farOfOneWord();
        farOfTwoWords();
        nothing();
        root();
        depth();
        costs();
        checks.end();
    }

    private static PointedWords pointing(long pointer, long... behind) {
        return Words.pointing(pointer, behind);
    }

    private static PointedWords opened(PointedWords x) {
        x.open();
        return x;
    }

    private static void found(String what, PointedWords x, String parts, int cost) {
        opened(x);
        checks.due(what + ": go", Checks.answer(() -> x.go(0, 0)), 1);
        checks.due(what + ": about", Words.parts(x, 1), parts);
        checks.due(what + ": cost", 62 - x.left(), cost);
        checks.due(what + ": form", Checks.answer(x::form) instanceof Integer, true);
    }

    private static void refused(String what, PointedWords x,
            Class<? extends RuntimeException> want) {
        opened(x);
        String formBefore = Words.formText(x, 64);
        checks.dueThrow(what + ": go", want, () -> x.go(0, 0));
        checks.due(what + ": nothing is taken", x.left(), 62);
        checks.dueThrow(what + ": no handle", NoSuchElementException.class, () -> x.about(1, 0));
        checks.dueThrow(what + ": form", want, x::form);
        checks.due(what + ": no new form", Words.formText(x, 64), formBefore);
    }

    private static void structs() {
        found("struct", pointing(Words.struct(0, 2, 1), 1, 2, 0), "0 2 1 0 0 2 2", 3);
        found("struct farther on", pointing(Words.struct(2, 1, 0), 1, 2, 3), "0 1 0 0 0 4 2", 1);
        found("struct before", pointing(Words.struct(-2, 1, 0)), "0 1 0 0 0 0 2", 1);
        found("struct without words", pointing(Words.struct(-1, 0, 0)), "0 0 0 0 0 1 2", 1);
        found("such at the end", pointing(Words.struct(1, 0, 0), 9), "0 0 0 0 0 3 2", 1);
        found("such at the beginning", pointing(Words.struct(-2, 0, 0)), "0 0 0 0 0 0 2", 1);
        refused("struct before 0", pointing(Words.struct(-3, 1, 0)), OUT);
        refused("empty struct before 0", pointing(Words.struct(-3, 0, 0)), OUT);
        refused("empty struct behind", pointing(Words.struct(2, 0, 0), 9), OUT);
        refused("struct over the end", pointing(Words.struct(0, 1, 1), 9), OUT);
        refused("struct of most words", pointing(Words.struct(0, 65535, 65535), 9), OUT);
        refused("struct of most data", pointing(Words.struct(0, 65535, 0), 9), OUT);
        refused("struct of most pointers", pointing(Words.struct(0, 0, 65535), 9), OUT);
        refused("struct farthest on", pointing(Words.struct((1 << 29) - 1, 1, 0)), OUT);
        refused("struct farthest back", pointing(Words.struct(-(1 << 29), 1, 0)), OUT);
    }

    private static void flatLists() {
        found("bits", pointing(Words.list(0, 1, 65), 0, 0), "2 65 0 0 0 2 2", 2);
        found("64 bits", pointing(Words.list(0, 1, 64), 0), "2 64 0 0 0 2 2", 1);
        found("bytes", pointing(Words.list(0, 2, 9), 0, 0), "3 9 0 0 0 2 2", 2);
        found("8 bytes", pointing(Words.list(0, 2, 8), 0), "3 8 0 0 0 2 2", 1);
        found("of 16", pointing(Words.list(0, 3, 5), 0, 0), "4 5 0 0 0 2 2", 2);
        found("of 32", pointing(Words.list(0, 4, 3), 0, 0), "5 3 0 0 0 2 2", 2);
        found("of 64", pointing(Words.list(0, 5, 3), 0, 0, 0), "6 3 0 0 0 2 2", 3);
        found("of 0", pointing(Words.list(0, 0, 7)), "1 7 0 0 0 2 2", 7);
        found("none of 0", pointing(Words.list(0, 0, 0)), "1 0 0 0 0 2 2", 1);
        found("none of 64", pointing(Words.list(0, 5, 0)), "6 0 0 0 0 2 2", 1);
        for (int kind = 1; kind <= 6; kind++) {
            found("none at the beginning", pointing(Words.list(-2, kind, 0)),
                    (kind + 1) + " 0 0 0 0 0 2", 1);
            refused("a list over the end", pointing(Words.list(1, kind, 1), 9), OUT);
            refused("an empty one behind", pointing(Words.list(2, kind, 0), 9), OUT);
            refused("one before 0", pointing(Words.list(-3, kind, 0), 9), OUT);
            refused("one of most", pointing(Words.list(0, kind, (1 << 29) - 1), 9), OUT);
        }
        refused("65 bits in a word", pointing(Words.list(0, 1, 65), 9), OUT);
        refused("9 bytes in a word", pointing(Words.list(0, 2, 9), 9), OUT);
        refused("5 of 16 in a word", pointing(Words.list(0, 3, 5), 9), OUT);
        refused("3 of 32 in a word", pointing(Words.list(0, 4, 3), 9), OUT);
        refused("2 of 64 in a word", pointing(Words.list(0, 5, 2), 9), OUT);
        refused("bits that wrap an int", pointing(Words.list(0, 3, 1 << 28), 9), OUT);
        refused("words that wrap an int", pointing(Words.list(0, 5, 1 << 26), 9), OUT);
        refused("most of 0", pointing(Words.list(0, 0, (1 << 29) - 1)), STATE);
        refused("of 0, behind", pointing(Words.list(1, 0, 1)), OUT);
    }

    private static void pointerLists() {
        found("pointers", pointing(Words.list(0, 6, 2), 0, 0), "7 2 0 0 0 2 2", 2);
        found("no pointers", pointing(Words.list(0, 6, 0)), "7 0 0 0 0 2 2", 1);
        refused("pointers over the end", pointing(Words.list(0, 6, 3), 0, 0), OUT);
    }

    private static void structLists() {
        found("structs", pointing(Words.list(0, 7, 4), Words.tag(2, 1, 1), 1, 0, 2, 0),
                "8 2 1 1 0 3 2", 5);
        found("words to spare", pointing(Words.list(0, 7, 4), Words.tag(1, 1, 1), 1, 0, 2, 0),
                "8 1 1 1 0 3 2", 5);
        found("a tag of 0", pointing(Words.list(0, 7, 0), 0), "8 0 0 0 0 3 2", 1);
        found("no elements, large ones", pointing(Words.list(0, 7, 0), Words.tag(0, 65535, 65535)),
                "8 0 65535 65535 0 3 2", 1);
        found("elements without words", pointing(Words.list(0, 7, 1), Words.tag(5, 0, 0), 1),
                "8 5 0 0 0 3 2", 6);
        found("the tag is the last word", pointing(Words.list(1, 7, 0), 9, Words.tag(2, 0, 0)),
                "8 2 0 0 0 4 2", 3);
        refused("no room for the tag", pointing(Words.list(0, 7, 0)), OUT);
        refused("words over the end", pointing(Words.list(0, 7, 1), Words.tag(0, 0, 0)), OUT);
        refused("over the end and no tag", pointing(Words.list(0, 7, 1), 3), OUT);
        refused("most words", pointing(Words.list(0, 7, (1 << 29) - 1), 3), OUT);
        for (long bits = 1; bits <= 3; bits++) {
            refused("no tag", pointing(Words.list(0, 7, 1), Words.tag(1, 1, 0) | bits, 1), BAD);
        }
        refused("elements over n", pointing(Words.list(0, 7, 1), Words.tag(1, 1, 1), 1, 1), BAD);
        refused("elements over n 0", pointing(Words.list(0, 7, 0), Words.tag(1, 0, 1)), BAD);
        refused("elements that wrap an int",
                pointing(Words.list(0, 7, 0), Words.tag(1 << 29, 8, 0)), BAD);
        refused("most elements", pointing(Words.list(0, 7, 0), Words.tag(-1, 65535, 65535)), BAD);
        refused("most without words", pointing(Words.list(0, 7, 0), Words.tag(-1, 0, 0)), STATE);
    }

    private static void farOfOneWord() {
        PointedWords x = pointing(Words.far(2, 1));
        Words.fill(x, 2, 9, Words.struct(1, 1, 1), 0, 7, 0);
        found("a struct by a pad", x, "0 1 1 0 2 3 2", 2);
        x.change(2, 1, Words.list(-2, 2, 3));
        found("a list by a pad", x, "3 3 0 0 2 0 2", 1);
        x.change(2, 1, Words.struct(-2, 0, 0));
        found("an empty struct by a pad", x, "0 0 0 0 2 0 2", 1);
        x.change(0, 1, Words.far(0, 0));
        opened(x);
        checks.due("the root's word as a pad", x.go(0, 0), 1);
        checks.due("it leads to the root", x.about(1, 5), 1);
        refused("no such segment", pointing(Words.far(4, 0)), OUT);
        refused("no such segment, by sign", pointing(Words.far(-1, 0)), OUT);
        refused("no such segment, the middle", pointing(Words.far(1L << 31, 0)), OUT);
        refused("a pad in an empty segment", pointing(Words.far(1, 0)), OUT);
        refused("no such word", pointing(Words.far(0, 2)), OUT);
        refused("the last word there could be", pointing(Words.far(0, (1L << 29) - 1)), OUT);
        refused("a null pad", pointing(Words.far(0, 2), 0), BAD);
        refused("a far pad", pointing(Words.far(0, 2), Words.far(0, 3), Words.struct(-1, 0, 0)),
                BAD);
        refused("a pad of bits 3", pointing(Words.far(0, 2), 3), BAD);
        refused("itself as a pad", pointing(Words.far(0, 1)), BAD);
        refused("a pad that leads out", pointing(Words.far(0, 2), Words.struct(0, 1, 0)), OUT);
        refused("a pad to no tag", pointing(Words.far(0, 2), Words.list(0, 7, 0), 1), BAD);
    }

    private static void farOfTwoWords() {
        PointedWords x = pointing(Words.farOfTwo(2, 1));
        Words.fill(x, 2, 9, Words.far(3, 1), Words.struct(77, 1, 1));
        Words.fill(x, 3, 0, 5, 0);
        found("a struct by two words", x, "0 1 1 0 3 1 2", 2);
        x.change(2, 2, Words.list(-77, 5, 2));
        found("a list by two words", x, "6 2 0 0 3 1 2", 2);
        x.change(2, 1, Words.far(3, 3));
        refused("a list over the end", x, OUT);
        x.change(2, 2, Words.list(0, 5, 0));
        found("an empty list at the end", x, "6 0 0 0 3 3 2", 1);
        x.change(2, 1, Words.far(3, 4));
        refused("an empty list behind", x, OUT);
        x.change(2, 1, Words.far(4, 0));
        refused("no such segment", x, OUT);
        x.change(2, 1, Words.far(-1, 0));
        refused("no such segment, by sign", x, OUT);
        x.change(2, 1, Words.farOfTwo(3, 1));
        refused("a first word with bit 2", x, BAD);
        x.change(2, 1, Words.struct(0, 1, 0));
        refused("a first word that is not far", x, BAD);
        x.change(2, 1, Words.list(0, 5, 1));
        refused("a first word that is a list", x, BAD);
        x.change(2, 1, 0);
        refused("a first word of 0", x, BAD);
        x.change(2, 1, Words.far(3, 1) | 1);
        refused("a first word of bits 3", x, BAD);
        x.change(2, 1, Words.far(3, 1));
        x.change(2, 2, 0);
        refused("a second word of 0", x, BAD);
        x.change(2, 2, Words.far(3, 1));
        refused("a second word that is far", x, BAD);
        x.change(2, 2, 3);
        refused("a second word of bits 3", x, BAD);
        x.change(2, 1, Words.far(4, 0));
        refused("bad before out", x, BAD);
        x.cut(2, 2);
        refused("no second word", x, OUT);
        x.change(2, 1, 0);
        refused("no second word, a first of 0", x, OUT);
        refused("no such segment for the pad", pointing(Words.farOfTwo(4, 0)), OUT);
        refused("the last words there could be", pointing(Words.farOfTwo(0, (1L << 29) - 1)), OUT);
        found("structs by two words", pointing(Words.farOfTwo(0, 2), Words.far(0, 4),
                Words.list(9, 7, 1), Words.tag(1, 1, 0), 6), "8 1 0 1 0 5 2", 2);
    }

    private static void nothing() {
        refused("bits 3", pointing(3), BAD);
        refused("all bits", pointing(-1), BAD);
        refused("bits 3 with the parts of a struct", pointing(Words.struct(0, 1, 0) | 3, 5), BAD);
        PointedWords x = opened(pointing(0));
        checks.due("a null pointer", x.go(0, 0), PointedWords.NONE);
    }

    private static void rootRefused(String what, Class<? extends RuntimeException> want,
            PointedWords x) {
        checks.dueThrow(what + ": open", want, x::open);
        checks.dueThrow(what + ": form", want, x::form);
    }

    private static void root() {
        rootRefused("no word", OUT, new PointedWords());
        rootRefused("words elsewhere", OUT, Words.fill(new PointedWords(), 1,
                Words.struct(-1, 0, 0)));
        rootRefused("null", NoSuchElementException.class, Words.message(0, 5));
        rootRefused("a list", BAD, Words.message(Words.list(0, 5, 1), 5));
        rootRefused("a list by a pad", BAD, Words.message(Words.far(0, 1), Words.list(0, 1, 0)));
        rootRefused("a list over the end", OUT, Words.message(Words.list(0, 5, 2), 5));
        rootRefused("a list without a tag", BAD, Words.message(Words.list(0, 7, 0), 1));
        rootRefused("a list that costs too much", BAD, Words.message(Words.list(0, 0, 99)));
        rootRefused("bits 3", BAD, Words.message(7));
        rootRefused("out", OUT, Words.message(Words.struct(0, 1, 0)));
        rootRefused("a null pad", BAD, Words.message(Words.far(0, 1), 0));
        rootRefused("no pad", OUT, Words.message(Words.far(0, 1)));
        PointedWords x = Words.message(Words.list(0, 0, 1));
        x.budget(0);
        rootRefused("a list, the budget being 0", BAD, x);
        PointedWords y = Words.message(Words.farOfTwo(1, 0), 8);
        Words.fill(y, 1, Words.far(0, 1), Words.struct(5, 1, 0));
        checks.due("by two words", y.open(), 1);
        checks.due("by two words: data", y.data(0, 0), 8L);
        PointedWords z = Words.message(Words.struct(-1, 0, 1));
        checks.due("a root around its own pointer", z.open(), 1);
        checks.due("its pointer leads to it", z.go(0, 0), 1);
    }

    private static void depth() {
        PointedWords x = Words.message(Words.struct(-1, 0, 1));
        x.open();
        for (int h = 0; h < 7; h++) {
            checks.due("go deeper", x.go(h, 0), h + 1);
            checks.due("depth", x.about(h + 1, 6), h + 2);
        }
        int left = x.left();
        checks.dueThrow("depth 9", STATE, () -> x.go(7, 0));
        checks.due("nothing is taken", x.left(), left);
        checks.dueThrow("no form of a ring", STATE, x::form);

        PointedWords y = Words.message(chain(7));
        checks.due("a chain of depth 8", y.form(), 8);
        PointedWords z = Words.message(chain(8));
        checks.dueThrow("a chain of depth 9", STATE, z::form);
        z.change(0, 8, Words.struct(5, 1, 0));
        checks.dueThrow("out before too deep", OUT, z::form);
        z.change(0, 8, 3);
        checks.dueThrow("bad before too deep", BAD, z::form);
        elementDepth();
        pointerListDepth();
    }

    /** Words 0 .. n, each one's struct having the next one as its pointer, the last one empty. */
    private static long[] chain(int n) {
        long[] words = new long[n + 1];
        for (int i = 0; i < n; i++) {
            words[i] = Words.struct(0, 0, 1);
        }
        words[n] = Words.struct(-1, 0, 0);
        return words;
    }

    private static void elementDepth() {
        PointedWords x = pointing(Words.list(0, 7, 1), Words.tag(1, 0, 1), Words.struct(-1, 0, 0));
        opened(x).go(0, 0);
        checks.due("element", x.element(1, 0), 2);
        checks.due("an element's depth", x.about(2, 6), 2);
        checks.due("from it", x.go(2, 0), 3);
        checks.due("the depth from it", x.about(3, 6), 3);
        PointedWords y = Words.message(deepElements(Words.struct(-1, 0, 0)));
        checks.due("elements at depth 7, theirs at 8", Checks.answer(y::form), 10);
        PointedWords z = Words.message(deepElements(Words.struct(-1, 0, 1)));
        checks.dueThrow("a ring from them", STATE, z::form);
    }

    private static void pointerListDepth() {
        long[] words = chain(7);
        words[6] = Words.list(0, 6, 1);
        checks.due("pointers at depth 7, theirs at 8",
                Checks.answer(Words.message(words)::form), 8);
        long[] deeper = chain(8);
        deeper[7] = Words.list(0, 6, 1);
        checks.dueThrow("pointers at depth 8, theirs at 9", STATE, Words.message(deeper)::form);
        deeper[8] = 0;
        checks.due("pointers at depth 8, null ones", Checks.answer(Words.message(deeper)::form), 9);
    }

    /** A list of one struct at depth 7 with this pointer. */
    private static long[] deepElements(long pointer) {
        return new long[] {Words.struct(0, 0, 1), Words.struct(0, 0, 1), Words.struct(0, 0, 1),
            Words.struct(0, 0, 1), Words.struct(0, 0, 1), Words.struct(0, 1, 1), 4,
            Words.list(0, 7, 1), Words.tag(1, 0, 1), pointer};
    }

    private static void costs() {
        costIs("struct", 3, pointing(Words.struct(0, 2, 1), 1, 2, 0));
        costIs("empty struct", 1, pointing(Words.struct(1, 0, 0), 1));
        costIs("of 0 bits", 9, pointing(Words.list(0, 0, 9)));
        costIs("none of 0 bits", 1, pointing(Words.list(0, 0, 0)));
        costIs("bits", 2, pointing(Words.list(0, 1, 70), 1, 2));
        costIs("pointers", 3, pointing(Words.list(0, 6, 3), 0, 0, 0));
        costIs("no pointers", 1, pointing(Words.list(0, 6, 0)));
        costIs("structs by n", 4, pointing(Words.list(0, 7, 3), Words.tag(2, 1, 0), 1, 2, 3));
        costIs("structs by m", 6, pointing(Words.list(0, 7, 3), Words.tag(5, 0, 0), 1, 2, 3));
        costIs("no structs", 1, pointing(Words.list(0, 7, 0), 0));
    }

    /** The root costs 1 before it. */
    private static void costIs(String what, int cost, PointedWords x) {
        x.budget(cost);
        opened(x);
        checks.dueThrow(what + ": too little is left", STATE, () -> x.go(0, 0));
        checks.due(what + ": it stays left", x.left(), cost - 1);
        checks.dueThrow(what + ": too little for the form", STATE, x::form);
        x.budget(cost + 1);
        opened(x);
        checks.due(what + ": just enough", Checks.answer(() -> x.go(0, 0)), 1);
        checks.due(what + ": none is left", x.left(), 0);
        checks.due(what + ": enough for the form", Checks.answer(x::form) instanceof Integer, true);
    }
}
