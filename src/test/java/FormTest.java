import java.util.NoSuchElementException;

/** Promises 14 to 18: form, formed, adopt, keep, same. */
public final class FormTest {
    private static final Checks checks = new Checks();

    public static void main(String[] args) {
        structs();
        flatLists();
        pointerLists();
        structLists();
        orderOfObjects();
        farPointers();
        sharedObjects();
        budgetOfTheForm();
        longestForm();
        throwing();
        formed();
        adopt();
        keepAndSame();
        checks.end();
    }

    private static void formIs(String what, PointedWords x, long... want) {
        checks.due(what + ": form", Checks.answer(x::form), want.length);
        checks.due(what, Words.formText(x, want.length), Words.text(want));
        checks.due(what + ": behind", x.formed(want.length), 0L);
    }

    private static void structs() {
        formIs("a struct as it is", Words.message(Words.struct(0, 2, 0), 0, 5),
                Words.struct(0, 2, 0), 0, 5);
        formIs("data without its zeros", Words.message(Words.struct(0, 4, 0), 7, 0, 0, 0),
                Words.struct(0, 1, 0), 7);
        formIs("nothing but zeros", Words.message(Words.struct(0, 2, 2), 0, 0, 0, 0),
                Words.struct(-1, 0, 0));
        formIs("the word itself", Words.message(Words.struct(-1, 0, 0)), 4294967292L);
        formIs("pointers without null ones",
                Words.message(Words.struct(0, 1, 4), 0, 0, Words.struct(-1, 0, 0), 0, 0),
                Words.struct(0, 0, 2), 0, Words.struct(-1, 0, 0));
        formIs("an empty struct elsewhere is not null",
                Words.message(Words.struct(0, 0, 1), Words.struct(0, 3, 0), 0, 0, 0),
                Words.struct(0, 0, 1), Words.struct(-1, 0, 0));
        formIs("a gap is left out",
                Words.message(Words.struct(2, 1, 1), 8, 8, 5, Words.struct(1, 1, 0), 8, 6),
                Words.struct(0, 1, 1), 5, Words.struct(0, 1, 0), 6);
        formIs("objects that stand before", Words.message(Words.struct(1, 1, 1), 9, 3,
                Words.struct(-3, 1, 0)),
                Words.struct(0, 1, 1), 3, Words.struct(0, 1, 0), 9);
        formIs("data behind the used ones stay out", Words.message(Words.struct(0, 2, 1), 5, 0,
                Words.struct(0, 1, 0), 6),
                Words.struct(0, 1, 1), 5, Words.struct(0, 1, 0), 6);
    }

    private static PointedWords oneList(long kind, long n, long... words) {
        PointedWords x = Words.message(Words.struct(0, 0, 1), Words.list(0, kind, n));
        return Words.fill(x, 0, words);
    }

    private static void flatLists() {
        formIs("bits", oneList(1, 5, -1), Words.struct(0, 0, 1), Words.list(0, 1, 5), 31);
        formIs("64 bits", oneList(1, 64, -1), Words.struct(0, 0, 1), Words.list(0, 1, 64), -1);
        formIs("65 bits", oneList(1, 65, -1, -1),
                Words.struct(0, 0, 1), Words.list(0, 1, 65), -1, 1);
        formIs("bytes", oneList(2, 11, -1, -1),
                Words.struct(0, 0, 1), Words.list(0, 2, 11), -1, 0xFFFFFFL);
        formIs("of 16", oneList(3, 3, -1),
                Words.struct(0, 0, 1), Words.list(0, 3, 3), 0xFFFFFFFFFFFFL);
        formIs("of 32", oneList(4, 3, -1, -1),
                Words.struct(0, 0, 1), Words.list(0, 4, 3), -1, 0xFFFFFFFFL);
        formIs("of 32, even", oneList(4, 2, -1), Words.struct(0, 0, 1), Words.list(0, 4, 2), -1);
        formIs("of 64, zeros stay", oneList(5, 3, 0, -1, 0),
                Words.struct(0, 0, 1), Words.list(0, 5, 3), 0, -1, 0);
        formIs("of 0 bits", oneList(0, 40), Words.struct(0, 0, 1), Words.list(0, 0, 40));
        formIs("none", oneList(5, 0), Words.struct(0, 0, 1), Words.list(0, 5, 0));
        formIs("lists without words lead to the next one", Words.message(Words.struct(0, 0, 3),
                Words.list(-2, 2, 0), Words.list(0, 0, 3), Words.struct(0, 1, 0), 5),
                Words.struct(0, 0, 3), Words.list(2, 2, 0), Words.list(1, 0, 3),
                Words.struct(0, 1, 0), 5);
        formIs("and behind the words put meanwhile", Words.message(Words.struct(0, 0, 2),
                Words.struct(1, 1, 0), Words.list(-3, 6, 0), 5),
                Words.struct(0, 0, 2), Words.struct(1, 1, 0), Words.list(1, 6, 0), 5);
    }

    private static void pointerLists() {
        formIs("null ones at the end stay", oneList(6, 3, 0, Words.struct(-1, 0, 0), 0),
                Words.struct(0, 0, 1), Words.list(0, 6, 3), 0, Words.struct(-1, 0, 0), 0);
        PointedWords x = oneList(5, 2, 7, 7);
        x.form();
        x.change(0, 1, Words.list(0, 6, 2));
        x.change(0, 2, 0);
        x.change(0, 3, 0);
        formIs("null ones where a form before had others", x,
                Words.struct(0, 0, 1), Words.list(0, 6, 2), 0, 0);
        formIs("what they lead to", oneList(6, 2, Words.list(2, 2, 1), Words.struct(0, 1, 0),
                7, 0xFF09L),
                Words.struct(0, 0, 1), Words.list(0, 6, 2), Words.list(1, 2, 1),
                Words.struct(1, 1, 0), 9, 7);
    }

    private static void structLists() {
        formIs("the greatest of each", oneList(7, 10, Words.tag(2, 3, 2),
                1, 0, 0, 0, 0, 2, 3, 0, Words.struct(-1, 0, 0), 0),
                Words.struct(0, 0, 1), Words.list(0, 7, 6), Words.tag(2, 2, 1),
                1, 0, 0, 2, 3, Words.struct(-1, 0, 0));
        formIs("the greatest of the first", oneList(7, 8, Words.tag(2, 2, 2),
                1, 2, 0, Words.struct(-1, 0, 0), 3, 0, Words.struct(-1, 0, 0), 0),
                Words.struct(0, 0, 1), Words.list(0, 7, 8), Words.tag(2, 2, 2),
                1, 2, 0, Words.struct(-1, 0, 0), 3, 0, Words.struct(-1, 0, 0), 0);
        formIs("words to spare are left out", oneList(7, 4, Words.tag(1, 1, 0), 5, 6, 7, 8),
                Words.struct(0, 0, 1), Words.list(0, 7, 1), Words.tag(1, 1, 0), 5);
        formIs("elements of zeros", oneList(7, 4, Words.tag(2, 1, 1), 0, 0, 0, 0),
                Words.struct(0, 0, 1), Words.list(0, 7, 0), Words.tag(2, 0, 0));
        formIs("elements without words", oneList(7, 0, Words.tag(62 - 1, 0, 0)),
                Words.struct(0, 0, 1), Words.list(0, 7, 0), Words.tag(61, 0, 0));
        formIs("no elements", oneList(7, 2, Words.tag(0, 65535, 3), 1, 2),
                Words.struct(0, 0, 1), Words.list(0, 7, 0), 0);
        formIs("what elements lead to, in order", oneList(7, 4, Words.tag(2, 1, 1),
                1, Words.struct(3, 1, 0), 2, Words.struct(0, 1, 0), 20, 10),
                Words.struct(0, 0, 1), Words.list(0, 7, 4), Words.tag(2, 1, 1),
                1, Words.struct(2, 1, 0), 2, Words.struct(1, 1, 0), 10, 20);
    }

    private static void orderOfObjects() {
        formIs("each with all that it leads to before the next one",
                Words.message(Words.struct(0, 0, 2), Words.struct(1, 0, 2), Words.struct(2, 1, 0),
                        Words.struct(3, 1, 0), Words.struct(1, 1, 0), 300, 200, 100),
                Words.struct(0, 0, 2), Words.struct(1, 0, 2), Words.struct(4, 1, 0),
                Words.struct(1, 1, 0), Words.struct(1, 1, 0), 100, 200, 300);
    }

    private static void farPointers() {
        PointedWords x = Words.message(Words.far(1, 0));
        Words.fill(x, 1, Words.struct(0, 1, 2), 4, Words.farOfTwo(2, 0), Words.far(3, 1));
        Words.fill(x, 2, Words.far(3, 0), Words.list(-9, 2, 2));
        Words.fill(x, 3, 0x123456L, Words.struct(-2, 1, 0));
        formIs("in one segment, without far pointers", x,
                Words.struct(0, 1, 2), 4, Words.list(1, 2, 2), Words.struct(1, 1, 0),
                0x3456L, 0x123456L);
    }

    private static void sharedObjects() {
        formIs("an object that two lead to is written twice",
                Words.message(Words.struct(0, 0, 2), Words.struct(1, 1, 0), Words.struct(0, 1, 0),
                        5),
                Words.struct(0, 0, 2), Words.struct(1, 1, 0), Words.struct(1, 1, 0), 5, 5);
    }

    private static void budgetOfTheForm() {
        PointedWords x = Words.message(Words.struct(0, 1, 1), 4, Words.struct(0, 3, 0), 1, 0, 0);
        x.budget(4);
        checks.dueThrow("too little, zeros count too", IllegalStateException.class, x::form);
        x.budget(5);
        checks.due("enough", Checks.answer(x::form), 4);
        x.open();
        x.go(0, 0);
        checks.due("the handles have spent theirs", x.left(), 0);
        checks.due("the form has its own", Checks.answer(x::form), 4);
        checks.due("and takes none of theirs", x.left(), 0);
        checks.due("handles stay", x.data(1, 0), 1L);
        x.budget(63);
        x.open();
        x.form();
        checks.due("what is left for handles stays", x.left(), 61);
    }

    private static void longestForm() {
        PointedWords x = new PointedWords();
        x.add(0, Words.struct(0, 63, 0));
        for (int i = 1; i < 64; i++) {
            x.add(0, i);
        }
        checks.due("64 words", Checks.answer(x::form), 64);
        checks.due("the last one", x.formed(63), 63L);
        checks.due("behind it", x.formed(64), 0L);
        checks.due("adopt", x.adopt(), true);
        checks.due("adopted", x.words(0), 64);
        checks.due("open", x.open(), 63);

        PointedWords y = Words.message(Words.struct(0, 0, 1), Words.list(0, 6, 31));
        for (int i = 0; i < 31; i++) {
            y.add(0, Words.struct(30 - i, 1, 0));
        }
        y.add(0, 8);
        checks.due("as the budget allows", Checks.answer(y::form), 64);
        checks.due("the last object", y.formed(63), 8L);

        PointedWords z = Words.message(Words.struct(0, 0, 1), Words.list(0, 7, 61),
                Words.tag(61, 1, 0));
        for (int i = 0; i < 61; i++) {
            z.add(0, 100 + i);
        }
        checks.due("structs up to the end", Checks.answer(z::form), 64);
        checks.due("the last element", z.formed(63), 160L);
    }

    private static void throwing() {
        PointedWords x = Words.message(Words.struct(0, 1, 1), 4, Words.struct(0, 1, 0), 6);
        x.form();
        String before = Words.formText(x, 64);
        x.change(0, 2, 3);
        x.change(0, 1, 5);
        checks.dueThrow("bits 3", IllegalArgumentException.class, x::form);
        checks.due("the form before stays", Words.formText(x, 64), before);
        x.change(0, 2, Words.struct(1, 1, 0));
        checks.dueThrow("out", IndexOutOfBoundsException.class, x::form);
        x.change(0, 0, 0);
        checks.dueThrow("null", NoSuchElementException.class, x::form);
        x.change(0, 0, Words.list(0, 5, 2));
        checks.dueThrow("a list", IllegalArgumentException.class, x::form);
        x.cut(0, 0);
        checks.dueThrow("no root", IndexOutOfBoundsException.class, x::form);
        checks.due("the form before stays", Words.formText(x, 64), before);
        checks.due("it can be adopted", x.adopt(), true);
        checks.due("its words", x.words(0), 4);

        PointedWords y = Words.message(Words.struct(0, 0, 2), 3, Words.struct(9, 1, 0));
        checks.dueThrow("the first pointer that is no good", IllegalArgumentException.class,
                y::form);
        y.change(0, 1, Words.struct(9, 1, 0));
        y.change(0, 2, 3);
        checks.dueThrow("the first one again", IndexOutOfBoundsException.class, y::form);
        y.change(0, 1, Words.struct(0, 0, 1));
        checks.dueThrow("what the first leads to", IllegalArgumentException.class, y::form);
    }

    private static void formed() {
        PointedWords x = Words.message(Words.struct(0, 1, 0), 4);
        checks.due("no form", x.formed(0), 0L);
        x.form();
        x.change(0, 1, 5);
        x.cut(0, 0);
        checks.due("the form stays", x.formed(1), 4L);
        for (int i : new int[] {2, -1, 63, 64, Integer.MIN_VALUE, Integer.MAX_VALUE}) {
            checks.due("no such word", x.formed(i), 0L);
        }
        Words.fill(x, 0, Words.struct(0, 1, 0), 0);
        x.form();
        checks.due("a shorter form", x.formed(1), 0L);
    }

    private static void adopt() {
        PointedWords x = Words.message(Words.far(1, 0), 7, 7, 7);
        checks.due("no form", x.adopt(), false);
        checks.due("nothing changes", x.words(0), 4);
        Words.fill(x, 1, Words.struct(0, 2, 0), 4, 0);
        Words.fill(x, 2, 1);
        Words.fill(x, 3, 1);
        x.form();
        x.open();
        checks.due("adopt", x.adopt(), true);
        checks.due("segment 0", x.words(0), 2);
        checks.due("its words", x.word(0, 0), Words.struct(0, 1, 0));
        checks.due("its words", x.word(0, 1), 4L);
        checks.due("the others", x.words(1) + x.words(2) + x.words(3), 0);
        checks.dueThrow("handles end", NoSuchElementException.class, () -> x.data(0, 0));
        checks.due("open", x.open(), 1);
        checks.due("add goes on", x.add(0, 9), 2);
        checks.due("the form stays", x.formed(1), 4L);
        x.change(0, 1, 8);
        checks.due("apart from the message", x.formed(1), 4L);
        checks.due("adopt again", x.adopt(), true);
        checks.due("as it was", x.word(0, 1), 4L);
    }

    private static void keepAndSame() {
        PointedWords x = Words.message(Words.struct(0, 2, 0), 4, 0);
        checks.due("keep without a form", x.keep(), false);
        x.form();
        checks.due("none kept", x.same(), false);
        checks.due("keep", x.keep(), true);
        checks.due("same", x.same(), true);
        x.change(0, 1, 5);
        checks.due("the message counts for nothing", x.same(), true);
        x.form();
        checks.due("another word", x.same(), false);
        x.change(0, 1, 4);
        x.change(0, 0, Words.struct(0, 1, 0));
        x.form();
        checks.due("the same form of another message", x.same(), true);
        x.change(0, 0, Words.struct(0, 2, 0));
        x.change(0, 2, 1);
        x.form();
        checks.due("a longer form", x.same(), false);
        checks.due("keep in place of it", x.keep(), true);
        checks.due("same", x.same(), true);
        x.change(0, 0, Words.struct(0, 1, 0));
        x.form();
        checks.due("a shorter form", x.same(), false);
        x.change(0, 0, 3);
        checks.dueThrow("no new form", IllegalArgumentException.class, x::form);
        checks.due("keep the latest one", x.keep(), true);
        checks.due("same", x.same(), true);
        PointedWords y = Words.message(Words.list(0, 0, 0));
        Checks.answer(y::form);
        checks.due("keep after a form that threw", y.keep(), false);
        checks.due("same after it", y.same(), false);
        singleDifferences();
    }

    /** Forms that differ in one word, and short ones after long ones. */
    private static void singleDifferences() {
        long either = Words.list(0, 0, 3);
        PointedWords y = Words.message(Words.struct(0, 1, 0), either);
        y.form();
        y.keep();
        y.change(0, 0, Words.struct(0, 0, 1));
        y.form();
        checks.due("word 0 alone differs", y.same(), false);

        PointedWords z = Words.message(Words.struct(0, 2, 0), 1, 2);
        z.form();
        z.keep();
        z.change(0, 2, 3);
        z.form();
        z.change(0, 2, 0);
        z.form();
        z.keep();
        checks.due("what stood behind counts for nothing", z.same(), true);

        PointedWords x = Words.message(Words.struct(0, 0, 1), Words.list(0, 5, 1), 0);
        x.form();
        x.keep();
        x.change(0, 1, Words.list(0, 4, 1));
        x.form();
        checks.due("the pointers differ", x.same(), false);
        x.change(0, 1, Words.list(0, 5, 1));
        x.form();
        checks.due("same again", x.same(), true);
        x.change(0, 2, 1);
        x.form();
        checks.due("the last word differs", x.same(), false);
    }
}
