/** Promises 1 to 7: a new object, add, change, cut, words, word, budget. */
public final class MessageTest {
    private static final Checks checks = new Checks();
    private static final int[] NO_SEGMENTS = {-1, 4, 5, Integer.MIN_VALUE, Integer.MAX_VALUE};

    public static void main(String[] args) {
        newObject();
        add();
        change();
        cut();
        wordsAndWord();
        budget();
        objectsApart();
        whatEndsHandles();
        checks.end();
    }

    private static void newObject() {
        PointedWords x = new PointedWords();
        for (int s = 0; s < 4; s++) {
            checks.due("new: words", x.words(s), 0);
            checks.due("new: word", x.word(s, 0), 0L);
        }
        checks.due("new: left", x.left(), 0);
        checks.due("new: formed", x.formed(0), 0L);
        checks.due("new: adopt", x.adopt(), false);
        checks.due("new: keep", x.keep(), false);
        checks.due("new: same", x.same(), false);
        checks.dueThrow("new: open", IndexOutOfBoundsException.class, x::open);
        checks.dueThrow("new: form", IndexOutOfBoundsException.class, x::form);
        checks.dueThrow("new: about", java.util.NoSuchElementException.class,
                () -> x.about(0, 0));
        x.add(0, Words.struct(0, 1, 0));
        x.add(0, 5);
        x.open();
        checks.due("new: the budget is 63", x.left(), 62);
        checks.due("NONE", PointedWords.NONE, -1);
    }

    private static void add() {
        PointedWords x = new PointedWords();
        for (int s = 0; s < 4; s++) {
            for (int i = 0; i < 64; i++) {
                checks.due("add", x.add(s, 1000L * s + i), i);
            }
            checks.due("add to a full segment", x.add(s, 7), PointedWords.NONE);
            checks.due("words of a full segment", x.words(s), 64);
            checks.due("last word of a full segment", x.word(s, 63), 1000L * s + 63);
        }
        for (int s : NO_SEGMENTS) {
            checks.due("add to no segment", x.add(s, 7), PointedWords.NONE);
        }
        checks.due("first word", x.word(0, 0), 0L);
        checks.due("a word in the midst", x.word(2, 31), 2031L);
    }

    private static void change() {
        PointedWords x = Words.message(1, 2, 3);
        checks.due("change", x.change(0, 1, Long.MIN_VALUE), true);
        checks.due("word changed", x.word(0, 1), Long.MIN_VALUE);
        checks.due("its neighbours", x.word(0, 0) + x.word(0, 2), 4L);
        checks.due("change the last", x.change(0, 2, -1), true);
        checks.due("change behind the last", x.change(0, 3, 9), false);
        checks.due("change before the first", x.change(0, -1, 9), false);
        checks.due("change in an empty segment", x.change(1, 0, 9), false);
        checks.due("change far out", x.change(0, Integer.MAX_VALUE, 9), false);
        for (int s : NO_SEGMENTS) {
            checks.due("change in no segment", x.change(s, 0, 9), false);
        }
        checks.due("number stays", x.words(0), 3);
        x.cut(0, 1);
        checks.due("change what was cut", x.change(0, 1, 9), false);
    }

    private static void cut() {
        PointedWords x = Words.message(1, 2, 3);
        checks.due("cut to more", x.cut(0, 4), false);
        checks.due("cut below 0", x.cut(0, -1), false);
        checks.due("cut to the least int", x.cut(0, Integer.MIN_VALUE), false);
        checks.due("number stays", x.words(0), 3);
        checks.due("cut to as many", x.cut(0, 3), true);
        checks.due("number stays", x.words(0), 3);
        checks.due("cut", x.cut(0, 2), true);
        checks.due("number", x.words(0), 2);
        checks.due("first words stay", x.word(0, 1), 2L);
        checks.due("the word cut", x.word(0, 2), 0L);
        checks.due("add behind the cut", x.add(0, 8), 2);
        checks.due("its word", x.word(0, 2), 8L);
        checks.due("cut to 0", x.cut(0, 0), true);
        checks.due("number", x.words(0), 0);
        checks.due("cut an empty one to 0", x.cut(3, 0), true);
        checks.due("cut an empty one to 1", x.cut(3, 1), false);
        for (int s : NO_SEGMENTS) {
            checks.due("cut no segment", x.cut(s, 0), false);
        }
    }

    private static void wordsAndWord() {
        PointedWords x = Words.fill(new PointedWords(), 3, -5, 6);
        checks.due("words", x.words(3), 2);
        checks.due("words of another", x.words(2), 0);
        checks.due("word", x.word(3, 0), -5L);
        checks.due("word behind", x.word(3, 2), 0L);
        checks.due("word before", x.word(3, -1), 0L);
        checks.due("word far out", x.word(3, Integer.MAX_VALUE), 0L);
        for (int s : NO_SEGMENTS) {
            checks.due("words of no segment", x.words(s), PointedWords.NONE);
            checks.due("word of no segment", x.word(s, 0), 0L);
        }
    }

    private static void budget() {
        PointedWords x = Words.message(Words.struct(0, 1, 0), 5);
        checks.due("budget below", x.budget(-1), false);
        checks.due("budget above", x.budget(64), false);
        checks.due("budget far above", x.budget(Integer.MAX_VALUE), false);
        checks.due("open", x.open(), 1);
        checks.due("refused budgets change nothing", x.left(), 62);
        checks.due("budget", x.budget(1), true);
        checks.due("what is left stays", x.left(), 62);
        checks.due("handles stay", x.data(0, 0), 5L);
        checks.due("open", x.open(), 1);
        checks.due("left of 1", x.left(), 0);
        checks.due("budget 0", x.budget(0), true);
        checks.dueThrow("open", IllegalStateException.class, x::open);
        checks.dueThrow("form", IllegalStateException.class, x::form);
        checks.due("budget 63", x.budget(63), true);
        checks.due("open", x.open(), 1);
        checks.due("left of 63", x.left(), 62);
    }

    private static void objectsApart() {
        PointedWords x = Words.message(Words.struct(0, 1, 0), 5);
        PointedWords y = Words.message(Words.struct(0, 1, 0), 6);
        x.open();
        x.form();
        checks.due("words of their own", y.word(0, 1), 6L);
        checks.due("handles of their own", y.left(), 0);
        checks.due("forms of their own", y.keep(), false);
    }

    private static void whatEndsHandles() {
        PointedWords x = Words.message(Words.struct(0, 1, 0), 5);
        x.form();
        x.open();
        x.add(4, 0);
        x.change(0, 2, 0);
        x.cut(0, 3);
        x.budget(9);
        x.keep();
        x.same();
        x.form();
        checks.due("refused calls end no handles", x.left(), 62);
        x.add(3, 0);
        checks.due("add ends them", x.left(), 0);
        checks.dueThrow("data", java.util.NoSuchElementException.class, () -> x.data(0, 0));
        x.open();
        x.change(0, 1, 5);
        checks.due("change to the same word ends them", x.left(), 0);
        x.open();
        x.cut(0, 2);
        checks.due("cut to as many ends them", x.left(), 0);
        x.open();
        x.adopt();
        checks.due("adopt ends them", x.left(), 0);
        checks.dueThrow("about", java.util.NoSuchElementException.class, () -> x.about(0, 0));
        for (int i = x.words(1); i < 64; i++) {
            x.add(1, 0);
        }
        x.open();
        x.add(1, 0);
        checks.due("add to a full segment ends none", x.left(), 8);
    }
}
