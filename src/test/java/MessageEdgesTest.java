import java.util.NoSuchElementException;

/** The boundary cases of promises 1 to 7, each sentence of the document with a test of its own. */
public final class MessageEdgesTest {
    private static final int LEAST = Integer.MIN_VALUE;
    private static final int MOST = Integer.MAX_VALUE;
    private static final int[] SEGMENTS = {0, 1, 2, 3};
    private static final int[] NO_SEGMENTS = {LEAST, LEAST + 1, -4, -1, 4, 5, 256, 65536, MOST};
    private static final long[] WORDS = {Long.MIN_VALUE, Integer.MIN_VALUE, -1, 0, 1,
        Integer.MAX_VALUE, 1L << 32, Long.MAX_VALUE};
    private static final Checks checks = new Checks();

    public static void main(String[] args) {
        segmentsWithoutWords();
        theBudgetIs63();
        noHandles();
        noForm();
        noneThatIsKept();
        addAnswersTheNumber();
        addToNoSuchSegment();
        addWhenItHas64();
        anyLongIsAWord();
        changeOneWord();
        changeNoSuchWord();
        cutKeepsTheFirst();
        cutIsRefused();
        cutWordsAreGone();
        wordsOfASegment();
        wordOrZero();
        budgetsTaken();
        budgetsRefused();
        whatIsLeftStays();
        checks.end();
    }

    private static PointedWords filled(int segment, int count) {
        PointedWords x = new PointedWords();
        for (int i = 0; i < count; i++) {
            x.add(segment, 100 + i);
        }
        return x;
    }

    /** A message whose root is a struct of so many words, all of segment 1. */
    private static PointedWords rootOf(int words) {
        PointedWords x = filled(1, words);
        Words.fill(x, 0, Words.farOfTwo(2, 0));
        return Words.fill(x, 2, Words.far(1, 0), Words.struct(0, words, 0));
    }

    /** "Segments without words"; "SEGMENTS 0 .. 3, ... none at first". */
    private static void segmentsWithoutWords() {
        for (int s : SEGMENTS) {
            PointedWords x = new PointedWords();
            checks.due("new: words(" + s + ")", x.words(s), 0);
            checks.due("new: word(" + s + ", 0)", x.word(s, 0), 0L);
            checks.due("new: word(" + s + ", 63)", x.word(s, 63), 0L);
            checks.due("new: change(" + s + ", 0)", x.change(s, 0, 1), false);
            checks.due("new: cut(" + s + ", 1)", x.cut(s, 1), false);
            checks.due("new: cut(" + s + ", 0)", x.cut(s, 0), true);
        }
        checks.dueThrow("new: open", IndexOutOfBoundsException.class, new PointedWords()::open);
        checks.dueThrow("new: form", IndexOutOfBoundsException.class, new PointedWords()::form);
    }

    /** "the budget is 63" */
    private static void theBudgetIs63() {
        PointedWords x = rootOf(63);
        checks.due("new: a root that costs 63", Checks.answer(x::open), 63);
        checks.due("new: none is left", x.left(), 0);
        checks.due("new: its form", Checks.answer(x::form), 64);
        PointedWords y = rootOf(64);
        checks.dueThrow("new: a root that costs 64", IllegalStateException.class, y::open);
        checks.dueThrow("new: its form", IllegalStateException.class, y::form);
        PointedWords z = Words.message(Words.struct(-1, 0, 0));
        z.open();
        checks.due("new: 63 without the least cost", z.left(), 62);
    }

    /** "no handles" */
    private static void noHandles() {
        PointedWords x = new PointedWords();
        checks.due("new: left", x.left(), 0);
        for (int handle : new int[] {LEAST, -1, 0, 15, 16, MOST}) {
            checks.dueThrow("new: about", NoSuchElementException.class, () -> x.about(handle, 0));
            checks.dueThrow("new: data", NoSuchElementException.class, () -> x.data(handle, 0));
            checks.dueThrow("new: go", NoSuchElementException.class, () -> x.go(handle, 0));
            checks.dueThrow("new: element", NoSuchElementException.class,
                    () -> x.element(handle, 0));
        }
    }

    /** "no form" */
    private static void noForm() {
        PointedWords x = new PointedWords();
        for (int i : new int[] {LEAST, -1, 0, 1, 63, 64, MOST}) {
            checks.due("new: formed(" + i + ")", x.formed(i), 0L);
        }
        checks.due("new: adopt", x.adopt(), false);
        checks.due("new: keep", x.keep(), false);
        checks.due("new: same", x.same(), false);
    }

    /** "none that is kept" */
    private static void noneThatIsKept() {
        PointedWords x = Words.message(Words.struct(-1, 0, 0));
        x.form();
        checks.due("a form, none kept", x.same(), false);
    }

    /** "A word more in a segment: its number." */
    private static void addAnswersTheNumber() {
        for (int s : SEGMENTS) {
            PointedWords x = new PointedWords();
            for (int i = 0; i < 64; i++) {
                checks.due("add to " + s, x.add(s, 100 + i), i);
                checks.due("words", x.words(s), i + 1);
            }
            for (int i = 0; i < 64; i++) {
                checks.due("the word added", x.word(s, i), 100L + i);
            }
            for (int other : SEGMENTS) {
                checks.due("the others have none", x.words(other), other == s ? 64 : 0);
            }
        }
    }

    /** "NONE, changing nothing, when there is no such segment" */
    private static void addToNoSuchSegment() {
        PointedWords x = new PointedWords();
        for (int s : NO_SEGMENTS) {
            checks.due("add to " + s, x.add(s, 5), PointedWords.NONE);
        }
        for (int s : SEGMENTS) {
            checks.due("none was added", x.words(s), 0);
        }
    }

    /** "... or it has 64." */
    private static void addWhenItHas64() {
        for (int s : SEGMENTS) {
            PointedWords x = filled(s, 63);
            checks.due("the 64th", x.add(s, 7), 63);
            checks.due("the 65th", x.add(s, 8), PointedWords.NONE);
            checks.due("still 64", x.words(s), 64);
            checks.due("the last one stays", x.word(s, 63), 7L);
            checks.due("the first one stays", x.word(s, 0), 100L);
            checks.due("none behind", x.word(s, 64), 0L);
            checks.due("another segment", x.add((s + 1) % 4, 9), 0);
            x.cut(s, 63);
            checks.due("the 64th again", x.add(s, 10), 63);
            checks.due("the 65th again", x.add(s, 11), PointedWords.NONE);
        }
    }

    /** "WORDS (longs)" */
    private static void anyLongIsAWord() {
        PointedWords x = new PointedWords();
        for (int i = 0; i < WORDS.length; i++) {
            checks.due("add " + WORDS[i], x.add(3, WORDS[i]), i);
        }
        for (int i = 0; i < WORDS.length; i++) {
            checks.due("added", x.word(3, i), WORDS[i]);
        }
        for (long word : WORDS) {
            checks.due("change to " + word, x.change(3, 2, word), true);
            checks.due("changed", x.word(3, 2), word);
        }
    }

    /** "A word of a segment becomes another one." */
    private static void changeOneWord() {
        for (int s : SEGMENTS) {
            PointedWords x = filled(s, 64);
            checks.due("change the first", x.change(s, 0, -1), true);
            checks.due("change the last", x.change(s, 63, -2), true);
            for (int i = 0; i < 64; i++) {
                checks.due("word " + i, x.word(s, i), i == 0 ? -1L : i == 63 ? -2L : 100L + i);
            }
            checks.due("as many", x.words(s), 64);
        }
    }

    /** "False when there is no such word." */
    private static void changeNoSuchWord() {
        for (int count : new int[] {0, 1, 63, 64}) {
            PointedWords x = filled(2, count);
            for (int i : new int[] {LEAST, -64, -1, count, count + 1, 64, 65, 256, MOST}) {
                checks.due("change " + i + " of " + count, x.change(2, i, 5), false);
            }
            for (int s : NO_SEGMENTS) {
                checks.due("change in " + s, x.change(s, 0, 5), false);
            }
            checks.due("as many", x.words(2), count);
            for (int i = 0; i < count; i++) {
                checks.due("word " + i, x.word(2, i), 100L + i);
            }
        }
    }

    /** "A segment keeps its first n words." */
    private static void cutKeepsTheFirst() {
        for (int s : SEGMENTS) {
            for (int n : new int[] {0, 1, 63, 64}) {
                PointedWords x = filled(s, 64);
                Words.fill(x, (s + 3) % 4, 7);
                checks.due("cut 64 to " + n, x.cut(s, n), true);
                checks.due("so many", x.words(s), n);
                checks.due("the first", x.word(s, 0), n == 0 ? 0L : 100L);
                checks.due("the last kept", x.word(s, n - 1), n == 0 ? 0L : 99L + n);
                checks.due("the next one", x.word(s, n), 0L);
                checks.due("another segment", x.words((s + 3) % 4), 1);
            }
        }
    }

    /** "False when there is no such segment, n is negative, or it has not so many." */
    private static void cutIsRefused() {
        for (int count : new int[] {0, 1, 63, 64}) {
            PointedWords x = filled(1, count);
            for (int n : new int[] {LEAST, -64, -1, count + 1, 65, 256, MOST}) {
                checks.due("cut " + count + " to " + n, x.cut(1, n), false);
                checks.due("as many", x.words(1), count);
            }
            for (int s : NO_SEGMENTS) {
                checks.due("cut " + s, x.cut(s, 0), false);
            }
            checks.due("as many", x.words(1), count);
            checks.due("cut to as many", x.cut(1, count), true);
            checks.due("as many", x.words(1), count);
        }
    }

    /** Words that are cut off are no words, for no call, and do not come back. */
    private static void cutWordsAreGone() {
        PointedWords x = Words.message(Words.struct(0, 2, 0), 7, 8);
        x.cut(0, 2);
        checks.due("the word cut off", x.word(0, 2), 0L);
        checks.due("change it", x.change(0, 2, 9), false);
        checks.due("cut to it", x.cut(0, 3), false);
        checks.dueThrow("open", IndexOutOfBoundsException.class, x::open);
        checks.due("a new one in its place", x.add(0, 0), 2);
        checks.due("its word", x.word(0, 2), 0L);
        checks.due("open", Checks.answer(x::open), 2);
    }

    /** "The number of words of a segment; NONE when there is none such." */
    private static void wordsOfASegment() {
        for (int s : SEGMENTS) {
            checks.due("of none", filled(s, 0).words(s), 0);
            checks.due("of one", filled(s, 1).words(s), 1);
            checks.due("of 64", filled(s, 64).words(s), 64);
        }
        for (int s : NO_SEGMENTS) {
            checks.due("words(" + s + ")", filled(0, 3).words(s), PointedWords.NONE);
        }
    }

    /** "A word; 0 when there is no such one." */
    private static void wordOrZero() {
        for (int count : new int[] {0, 1, 63, 64}) {
            PointedWords x = filled(3, count);
            checks.due("the first", x.word(3, 0), count == 0 ? 0L : 100L);
            checks.due("the last", x.word(3, count - 1), count == 0 ? 0L : 99L + count);
            for (int i : new int[] {LEAST, -64, -1, count, 64, 65, 256, MOST}) {
                checks.due("word(3, " + i + ") of " + count, x.word(3, i), 0L);
            }
            for (int s : NO_SEGMENTS) {
                checks.due("word(" + s + ", 0)", x.word(s, 0), 0L);
            }
        }
    }

    /** "The budget is so many from now on." */
    private static void budgetsTaken() {
        for (int budget = 0; budget <= 63; budget++) {
            PointedWords x = Words.message(Words.struct(-1, 0, 0));
            checks.due("budget " + budget, x.budget(budget), true);
            checks.due("open", Checks.answer(x::open),
                    budget == 0 ? "throws.IllegalStateException" : (Object) 0);
            checks.due("left", x.left(), budget == 0 ? 0 : budget - 1);
            checks.due("form", Checks.answer(x::form),
                    budget == 0 ? "throws.IllegalStateException" : (Object) 1);
        }
        PointedWords y = rootOf(63);
        y.budget(62);
        checks.dueThrow("62 for 63", IllegalStateException.class, y::open);
        y.budget(63);
        checks.due("63 for 63", Checks.answer(y::open), 63);
    }

    /** "False when that is not 0 .. 63." */
    private static void budgetsRefused() {
        for (int budget : new int[] {LEAST, LEAST + 1, -63, -1, 64, 65, 256, 319, 65536, MOST}) {
            PointedWords x = Words.message(Words.struct(-1, 0, 0));
            checks.due("budget " + budget, x.budget(budget), false);
            x.open();
            checks.due("still 63", x.left(), 62);
            x.budget(9);
            checks.due("budget " + budget, x.budget(budget), false);
            x.open();
            checks.due("still 9", x.left(), 8);
        }
    }

    /** "(What is left for handles stays.)" */
    private static void whatIsLeftStays() {
        PointedWords x = Words.pointing(Words.struct(0, 3, 0), 1, 2, 3);
        x.open();
        for (int budget : new int[] {0, 1, 63}) {
            checks.due("budget " + budget, x.budget(budget), true);
            checks.due("left", x.left(), 62);
            checks.due("the handle", Words.parts(x, 0), "0 0 1 0 0 1 1");
        }
        x.budget(0);
        checks.due("go with what is left", Checks.answer(() -> x.go(0, 0)), 1);
        checks.due("left", x.left(), 59);
        x.budget(1);
        x.open();
        x.budget(63);
        checks.due("left of 1", x.left(), 0);
        checks.dueThrow("go with none left", IllegalStateException.class, () -> x.go(0, 0));
    }
}
