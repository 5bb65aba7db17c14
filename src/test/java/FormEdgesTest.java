/** The boundary cases of the canonical form and of promises 14 to 18, sentence by sentence. */
public final class FormEdgesTest {
    private static final String OUT = "throws.IndexOutOfBoundsException";
    private static final String BAD = "throws.IllegalArgumentException";
    private static final String STATE = "throws.IllegalStateException";
    private static final String NONE_SUCH = "throws.NoSuchElementException";
    private static final int LEAST = Integer.MIN_VALUE;
    private static final int MOST = Integer.MAX_VALUE;
    private static final int[] WIDTHS = {0, 1, 8, 16, 32, 64};
    private static final long EMPTY = Words.struct(-1, 0, 0);
    private static final Checks checks = new Checks();

    public static void main(String[] args) {
        madeWithTheWholeBudget();
        apartFromWhatIsLeft();
        nullPointersAreZero();
        dataWithoutZerosAtTheEnd();
        pointersWithoutNullAtTheEnd();
        structsWithoutWords();
        elementsThatEndInAWord();
        flatListsStayAsLong();
        pointerListsStayAsLong();
        greatestOfTheElements();
        wordsBehindTheLastElement();
        elementsWithoutWords();
        wordsThatNoElementHas();
        listsWithoutWords();
        eachWithAllBeforeTheNext();
        shortestAndLongestForm();
        noNewFormWhenThrown();
        firstExceptionInOrder();
        formedOutside();
        formsStay();
        adoptTheForm();
        adoptWithoutAForm();
        keepInPlace();
        keepWithoutAForm();
        sameForms();
        sameWhenOneIsNotThere();
        formOfAForm();
        checks.end();
    }

    private static void formIs(String what, PointedWords x, long... want) {
        checks.due(what + ": number", Checks.answer(x::form), want.length);
        checks.due(what, Words.formText(x, 65), Words.text(padded(want)));
    }

    private static long[] padded(long[] words) {
        long[] all = new long[65];
        System.arraycopy(words, 0, all, 0, words.length);
        return all;
    }

    private static PointedWords filledRoot(int words) {
        PointedWords x = Words.message(Words.struct(0, words, 0));
        return Words.fill(x, 0, Words.repeated(7, words));
    }

    /** "made with the whole budget" */
    private static void madeWithTheWholeBudget() {
        PointedWords x = Words.message(Words.struct(0, 1, 2), 4, Words.struct(1, 2, 0),
                Words.list(2, 0, 3), 5, 0);
        x.budget(7);
        checks.due("3 and 2 and 3 of 7", Checks.answer(x::form), STATE);
        x.budget(8);
        checks.due("3 and 2 and 3 of 8", Checks.answer(x::form), 5);
        checks.due("8 again for the next form", Checks.answer(x::form), 5);
        x.budget(0);
        checks.due("none", Checks.answer(x::form), STATE);
        PointedWords y = Words.message(Words.struct(0, 0, 2), Words.list(1, 0, 31),
                Words.list(0, 0, 30));
        checks.due("2 and 31 and 30 of 63", Checks.answer(y::form), 3);
        y.change(0, 2, Words.list(0, 0, 31));
        checks.due("2 and 31 and 31 of 63", Checks.answer(y::form), STATE);
    }

    /** "apart from what is left for handles" */
    private static void apartFromWhatIsLeft() {
        PointedWords x = Words.pointing(Words.list(0, 0, 62));
        x.open();
        x.go(0, 0);
        checks.due("none is left", x.left(), 0);
        checks.due("form", Checks.answer(x::form), 2);
        checks.due("none is left", x.left(), 0);
        x.open();
        checks.due("form", Checks.answer(x::form), 2);
        checks.due("all but the root is left", x.left(), 62);
        x.budget(1);
        checks.due("no budget for the form", Checks.answer(x::form), STATE);
        checks.due("what is left stays", x.left(), 62);
        checks.due("enough is left to go", Checks.answer(() -> x.go(0, 0)), 1);
    }

    /** "for a null pointer the word is 0" */
    private static void nullPointersAreZero() {
        formIs("null in a struct", Words.message(Words.struct(0, 0, 3), 0, 0, EMPTY),
                Words.struct(0, 0, 3), 0, 0, EMPTY);
        formIs("null in a list", Words.pointing(Words.list(0, 6, 3), 0, EMPTY, 0),
                Words.struct(0, 0, 1), Words.list(0, 6, 3), 0, EMPTY, 0);
        formIs("null in elements",
                Words.pointing(Words.list(0, 7, 2), Words.tag(2, 0, 1), 0, EMPTY),
                Words.struct(0, 0, 1), Words.list(0, 7, 2), Words.tag(2, 0, 1), 0, EMPTY);
        PointedWords x = filledRoot(63);
        x.form();
        x.change(0, 0, Words.struct(0, 0, 1));
        x.change(0, 1, Words.list(0, 6, 61));
        for (int i = 2; i < 64; i++) {
            x.change(0, i, 0);
        }
        long[] want = new long[63];
        want[0] = Words.struct(0, 0, 1);
        want[1] = Words.list(0, 6, 61);
        formIs("null where a form before had other words", x, want);
    }

    /** "A struct has d data words without those at its end that are 0" */
    private static void dataWithoutZerosAtTheEnd() {
        formIs("none is 0", Words.message(Words.struct(0, 3, 0), 1, 2, 3),
                Words.struct(0, 3, 0), 1, 2, 3);
        formIs("the last is 0", Words.message(Words.struct(0, 3, 0), 1, 2, 0),
                Words.struct(0, 2, 0), 1, 2);
        formIs("all but the first", Words.message(Words.struct(0, 3, 0), 1, 0, 0),
                Words.struct(0, 1, 0), 1);
        formIs("all but the last", Words.message(Words.struct(0, 3, 0), 0, 0, 3),
                Words.struct(0, 3, 0), 0, 0, 3);
        formIs("in the midst", Words.message(Words.struct(0, 4, 0), 1, 0, 3, 0),
                Words.struct(0, 3, 0), 1, 0, 3);
        formIs("the highest bit is not 0", Words.message(Words.struct(0, 2, 0), 0, Long.MIN_VALUE),
                Words.struct(0, 2, 0), 0, Long.MIN_VALUE);
        formIs("before a pointer", Words.message(Words.struct(0, 2, 1), 5, 0, EMPTY),
                Words.struct(0, 1, 1), 5, EMPTY);
        formIs("only a pointer is left", Words.message(Words.struct(0, 2, 1), 0, 0, EMPTY),
                Words.struct(0, 0, 1), EMPTY);
        PointedWords x = filledRoot(63);
        x.change(0, 63, 0);
        checks.due("62 of 63", Checks.answer(x::form), 63);
        checks.due("its pointer", x.formed(0), Words.struct(0, 62, 0));
    }

    /** "p pointers without those at its end that are null" */
    private static void pointersWithoutNullAtTheEnd() {
        formIs("none is null", Words.message(Words.struct(0, 0, 2), EMPTY, EMPTY),
                Words.struct(0, 0, 2), EMPTY, EMPTY);
        formIs("the last is null", Words.message(Words.struct(0, 0, 2), EMPTY, 0),
                Words.struct(0, 0, 1), EMPTY);
        formIs("all but the last", Words.message(Words.struct(0, 0, 3), 0, 0, EMPTY),
                Words.struct(0, 0, 3), 0, 0, EMPTY);
        formIs("in the midst", Words.message(Words.struct(0, 0, 4), EMPTY, 0, EMPTY, 0),
                Words.struct(0, 0, 3), EMPTY, 0, EMPTY);
        formIs("only data is left", Words.message(Words.struct(0, 1, 2), 5, 0, 0),
                Words.struct(0, 1, 0), 5);
        formIs("a pointer to an empty object is not null",
                Words.message(Words.struct(0, 0, 3), Words.struct(3, 0, 0), Words.list(0, 0, 0),
                        Words.struct(0, 2, 0), 0, 0),
                Words.struct(0, 0, 3), EMPTY, Words.list(1, 0, 0), EMPTY);
        formIs("what stands behind is no pointer of it",
                Words.message(Words.struct(0, 1, 1), 5, 0, EMPTY), Words.struct(0, 1, 0), 5);
    }

    /** "for a struct without words left b is -1" */
    private static void structsWithoutWords() {
        formIs("without words", Words.message(EMPTY), EMPTY);
        formIs("elsewhere", Words.message(Words.struct(1, 0, 0), 9), EMPTY);
        formIs("of a 0", Words.message(Words.struct(0, 1, 0), 0), EMPTY);
        formIs("of a null pointer", Words.message(Words.struct(0, 0, 1), 0), EMPTY);
        formIs("of 63", Words.fill(Words.message(Words.struct(0, 40, 23)), 0,
                Words.repeated(0, 63)), EMPTY);
        checks.due("the word itself", EMPTY, 0xFFFFFFFCL);
        formIs("behind other words", Words.message(Words.struct(0, 1, 3), 5, Words.struct(2, 1, 0),
                Words.struct(2, 1, 0), Words.struct(-2, 0, 0), 6, 0),
                Words.struct(0, 1, 3), 5, Words.struct(2, 1, 0), EMPTY, EMPTY, 6);
    }

    /** "the same kind and elements, and 0 in bits that are no element's" */
    private static void elementsThatEndInAWord() {
        for (int kind = 1; kind < 6; kind++) {
            int inWord = 64 / WIDTHS[kind];
            for (int n = 1; n <= 2 * inWord; n++) {
                int words = (n + inWord - 1) / inWord;
                int bitsInLast = (n - (words - 1) * inWord) * WIDTHS[kind];
                long last = bitsInLast == 64 ? -1L : (1L << bitsInLast) - 1;
                PointedWords x = Words.pointing(Words.list(0, kind, n), -1, -1);
                long[] want = new long[2 + words];
                want[0] = Words.struct(0, 0, 1);
                want[1] = Words.list(0, kind, n);
                want[2] = -1;
                want[1 + words] = last;
                formIs(n + " of kind " + kind, x, want);
                checks.due("the message stays", x.word(0, 1 + words), -1L);
            }
        }
        int most = 62 * 64;
        PointedWords y = Words.pointing(Words.list(0, 1, most - 1), Words.repeated(-1, 62));
        checks.due("most bits but one", Checks.answer(y::form), 64);
        checks.due("the last word", y.formed(63), Long.MAX_VALUE);
        checks.due("the one before", y.formed(62), -1L);
    }

    /** Of kinds 0 .. 5, "the same kind and elements": zeros at the end stay. */
    private static void flatListsStayAsLong() {
        int[] inWord = {0, 64, 8, 4, 2, 1};
        for (int kind = 1; kind < 6; kind++) {
            int n = 3 * inWord[kind];
            formIs("zeros of kind " + kind, Words.pointing(Words.list(0, kind, n), 0, 0, 0),
                    Words.struct(0, 0, 1), Words.list(0, kind, n), 0, 0, 0);
            formIs("zeros at the end of kind " + kind,
                    Words.pointing(Words.list(0, kind, n), 5, 0, 0),
                    Words.struct(0, 0, 1), Words.list(0, kind, n), 5, 0, 0);
        }
        for (int n : new int[] {0, 1, 2, 62}) {
            formIs(n + " of kind 0", Words.pointing(Words.list(-1, 0, n)),
                    Words.struct(0, 0, 1), Words.list(0, 0, n));
        }
    }

    /** "of kind 6 the same number of pointers" */
    private static void pointerListsStayAsLong() {
        for (int n = 0; n <= 61; n++) {
            long[] want = new long[2 + n];
            want[0] = Words.struct(0, 0, 1);
            want[1] = Words.list(0, 6, n);
            formIs(n + " null pointers",
                    Words.pointing(Words.list(0, 6, n), Words.repeated(0, n)), want);
        }
        formIs("null at the end", Words.pointing(Words.list(0, 6, 3), Words.list(2, 0, 2), 0, 0),
                Words.struct(0, 0, 1), Words.list(0, 6, 3), Words.list(2, 0, 2), 0, 0);
    }

    private static PointedWords elements(long tag, long... words) {
        PointedWords x = Words.pointing(Words.list(0, 7, words.length), tag);
        return Words.fill(x, 0, words);
    }

    private static void elementsAre(String what, PointedWords x, long tag, long... words) {
        long[] want = new long[3 + words.length];
        want[0] = Words.struct(0, 0, 1);
        want[1] = Words.list(0, 7, words.length);
        want[2] = tag;
        System.arraycopy(words, 0, want, 3, words.length);
        formIs(what, x, want);
    }

    /** "d is the greatest number of data words that one of its elements has ..., p likewise" */
    private static void greatestOfTheElements() {
        elementsAre("the first has most data", elements(Words.tag(3, 2, 0), 1, 2, 3, 0, 0, 0),
                Words.tag(3, 2, 0), 1, 2, 3, 0, 0, 0);
        elementsAre("the one in the midst", elements(Words.tag(3, 2, 0), 0, 0, 1, 2, 3, 0),
                Words.tag(3, 2, 0), 0, 0, 1, 2, 3, 0);
        elementsAre("the last", elements(Words.tag(3, 2, 0), 3, 0, 0, 0, 1, 2),
                Words.tag(3, 2, 0), 3, 0, 0, 0, 1, 2);
        elementsAre("none has a second", elements(Words.tag(3, 2, 0), 3, 0, 0, 0, 1, 0),
                Words.tag(3, 1, 0), 3, 0, 1);
        elementsAre("only second ones", elements(Words.tag(2, 2, 0), 0, 5, 0, 6),
                Words.tag(2, 2, 0), 0, 5, 0, 6);
        elementsAre("the first has most pointers", elements(Words.tag(2, 0, 2), 0, EMPTY, EMPTY, 0),
                Words.tag(2, 0, 2), 0, EMPTY, EMPTY, 0);
        elementsAre("the last has most pointers", elements(Words.tag(2, 0, 2), EMPTY, 0, 0, EMPTY),
                Words.tag(2, 0, 2), EMPTY, 0, 0, EMPTY);
        elementsAre("none has a second", elements(Words.tag(2, 0, 2), EMPTY, 0, EMPTY, 0),
                Words.tag(2, 0, 1), EMPTY, EMPTY);
        elementsAre("data of one, pointers of the other",
                elements(Words.tag(2, 2, 2), 5, 0, 0, 0, 0, 0, EMPTY, 0),
                Words.tag(2, 1, 1), 5, 0, 0, EMPTY);
        elementsAre("data alone is left", elements(Words.tag(2, 1, 1), 5, 0, 6, 0),
                Words.tag(2, 1, 0), 5, 6);
        elementsAre("pointers alone are left", elements(Words.tag(2, 1, 1), 0, EMPTY, 0, EMPTY),
                Words.tag(2, 0, 1), EMPTY, EMPTY);
        PointedWords most = elements(Words.tag(61, 1, 0), Words.repeated(9, 61));
        elementsAre("61 of one word", most, Words.tag(61, 1, 0), Words.repeated(9, 61));
    }

    /** Words behind the last element's are none of its pointers. */
    private static void wordsBehindTheLastElement() {
        PointedWords x = elements(Words.tag(2, 1, 1), 5, EMPTY, 6, EMPTY);
        Words.fill(x, 0, 3, 3, 3, 3);
        elementsAre("bits 3 behind", x, Words.tag(2, 1, 1), 5, EMPTY, 6, EMPTY);
        PointedWords y = elements(Words.tag(2, 0, 2), EMPTY, 0, EMPTY, 0);
        Words.fill(y, 0, 3, 3, 3, 3);
        elementsAre("bits 3 behind null ones", y, Words.tag(2, 0, 1), EMPTY, EMPTY);
    }

    /** "A list of kind 7 has as many elements; ... n is m * (d + p)", without words n is 0. */
    private static void elementsWithoutWords() {
        elementsAre("no elements", elements(0), 0);
        elementsAre("no elements, but their size", elements(Words.tag(0, 65535, 65535)), 0);
        elementsAre("one without words", elements(Words.tag(1, 0, 0)), Words.tag(1, 0, 0));
        elementsAre("61 without words", elements(Words.tag(61, 0, 0)), Words.tag(61, 0, 0));
        elementsAre("two of zeros", elements(Words.tag(2, 1, 1), 0, 0, 0, 0), Words.tag(2, 0, 0));
        formIs("what comes behind such a list",
                Words.message(Words.struct(0, 0, 2), Words.list(1, 7, 1), Words.struct(2, 1, 0),
                        Words.tag(1, 1, 0), 0, 8),
                Words.struct(0, 0, 2), Words.list(1, 7, 0), Words.struct(1, 1, 0),
                Words.tag(1, 0, 0), 8);
    }

    /** The words of a list of kind 7 that no element has are left out, though they cost. */
    private static void wordsThatNoElementHas() {
        elementsAre("one to spare", elements(Words.tag(1, 1, 0), 5, 6), Words.tag(1, 1, 0), 5);
        elementsAre("all to spare", elements(Words.tag(0, 1, 0), 5, 6), 0);
        elementsAre("60 to spare", elements(Words.tag(1, 1, 0), Words.repeated(3, 61)),
                Words.tag(1, 1, 0), 3);
        elementsAre("pointers to spare lead nowhere", elements(Words.tag(1, 0, 1), EMPTY, 3, 3),
                Words.tag(1, 0, 1), EMPTY);
        PointedWords x = elements(Words.tag(1, 1, 0), 5, 6, 7);
        x.budget(4);
        checks.due("they cost", Checks.answer(x::form), STATE);
        x.budget(5);
        checks.due("they cost no more", Checks.answer(x::form), 4);
    }

    /** "for lists without words the one that would come next" */
    private static void listsWithoutWords() {
        for (int kind = 0; kind < 7; kind++) {
            formIs("none of kind " + kind, Words.pointing(Words.list(-2, kind, 0)),
                    Words.struct(0, 0, 1), Words.list(0, kind, 0));
            formIs("none of kind " + kind + " before a struct",
                    Words.message(Words.struct(0, 0, 2), Words.list(0, kind, 0),
                            Words.struct(0, 1, 0), 5),
                    Words.struct(0, 0, 2), Words.list(1, kind, 0), Words.struct(0, 1, 0), 5);
            formIs("none of kind " + kind + " behind a struct",
                    Words.message(Words.struct(0, 0, 2), Words.struct(1, 1, 0),
                            Words.list(-2, kind, 0), 5),
                    Words.struct(0, 0, 2), Words.struct(1, 1, 0), Words.list(1, kind, 0), 5);
        }
        formIs("two in a row", Words.message(Words.struct(0, 0, 2), Words.list(0, 0, 4),
                Words.list(0, 2, 0)),
                Words.struct(0, 0, 2), Words.list(1, 0, 4), Words.list(0, 2, 0));
    }

    /** "for its pointers in their order, ... each with all that it leads to before the next one" */
    private static void eachWithAllBeforeTheNext() {
        formIs("a struct in a struct before the next",
                Words.message(Words.struct(0, 0, 2), Words.struct(2, 0, 1), Words.struct(0, 1, 0),
                        9, Words.struct(0, 1, 0), 8),
                Words.struct(0, 0, 2), Words.struct(1, 0, 1), Words.struct(2, 1, 0),
                Words.struct(0, 1, 0), 8, 9);
        formIs("what pointers lead to before the next",
                Words.message(Words.struct(0, 0, 2), Words.list(2, 6, 2), Words.struct(0, 1, 0),
                        9, Words.list(1, 5, 1), Words.list(1, 5, 1), 7, 8),
                Words.struct(0, 0, 2), Words.list(1, 6, 2), Words.struct(4, 1, 0),
                Words.list(1, 5, 1), Words.list(1, 5, 1), 7, 8, 9);
        formIs("what elements lead to before the next",
                Words.message(Words.struct(0, 0, 2), Words.list(2, 7, 2), Words.struct(0, 1, 0),
                        9, Words.tag(2, 0, 1), Words.list(1, 5, 1), Words.list(1, 5, 1), 7, 8),
                Words.struct(0, 0, 2), Words.list(1, 7, 2), Words.struct(5, 1, 0),
                Words.tag(2, 0, 1), Words.list(1, 5, 1), Words.list(1, 5, 1), 7, 8, 9);
    }

    /** "Makes the canonical form: the number of its words.", from 1 to 64 */
    private static void shortestAndLongestForm() {
        for (int words = 0; words <= 63; words++) {
            PointedWords x = words == 0 ? Words.message(EMPTY) : filledRoot(words);
            checks.due("of " + words, Checks.answer(x::form), words + 1);
            checks.due("the last word", x.formed(words), words == 0 ? EMPTY : 7L);
            checks.due("behind it", x.formed(words + 1), 0L);
        }
        PointedWords y = Words.message(Words.struct(0, 0, 1), Words.list(0, 6, 31));
        Words.fill(y, 0, Words.repeated(0, 31));
        y.add(0, 8);
        for (int i = 0; i < 31; i++) {
            y.change(0, 2 + i, Words.struct(30 - i, 1, 0));
        }
        checks.due("31 written apart", Checks.answer(y::form), 64);
        checks.due("the last of them", y.formed(63), 8L);
        y.change(0, 1, Words.list(0, 6, 32));
        y.change(0, 33, 0);
        checks.due("32 of which one is null", Checks.answer(y::form), STATE);
    }

    /** "(there is no new form then)" */
    private static void noNewFormWhenThrown() {
        String[] want = {OUT, NONE_SUCH, BAD, BAD, OUT, STATE, BAD, STATE};
        long[][] roots = {{}, {0}, {Words.list(0, 0, 0)}, {3}, {Words.struct(0, 1, 0)},
            {Words.struct(0, 0, 1), Words.list(0, 0, 63)},
            {Words.struct(0, 1, 2), 9, Words.struct(1, 1, 0), 3, 8}, {Words.struct(-1, 0, 1)}};
        for (int r = 0; r < roots.length; r++) {
            PointedWords x = Words.message(Words.struct(0, 2, 0), 4, 5);
            x.form();
            String before = Words.formText(x, 65);
            x.keep();
            x.cut(0, 0);
            Words.fill(x, 0, roots[r]);
            checks.due("form " + r, Checks.answer(x::form), want[r]);
            checks.due("the form before stays " + r, Words.formText(x, 65), before);
            checks.due("it is the same as the one kept " + r, x.same(), true);
            PointedWords y = Words.message(roots[r]);
            checks.due("form " + r, Checks.answer(y::form), want[r]);
            checks.due("none to keep " + r, y.keep(), false);
            checks.due("none to adopt " + r, y.adopt(), false);
            checks.due("none to ask for " + r, Words.formText(y, 65), Words.text(new long[65]));
        }
    }

    /** What finding throws first on the way of writing is what form() throws. */
    private static void firstExceptionInOrder() {
        long out = Words.struct(50, 1, 0);
        long dear = Words.list(-1, 0, 99);
        long[][] pairs = {{out, 3}, {3, out}, {dear, 3}, {3, dear}, {dear, out}, {out, dear}};
        String[] want = {OUT, BAD, STATE, BAD, STATE, OUT};
        for (int i = 0; i < pairs.length; i++) {
            checks.due("two of a struct", Checks.answer(Words.message(Words.struct(0, 0, 2),
                    pairs[i][0], pairs[i][1])::form), want[i]);
            checks.due("two of a list", Checks.answer(Words.pointing(Words.list(0, 6, 2),
                    pairs[i][0], pairs[i][1])::form), want[i]);
            checks.due("two of elements", Checks.answer(elements(Words.tag(2, 0, 1),
                    pairs[i][0], pairs[i][1])::form), want[i]);
            checks.due("one below, one beside", Checks.answer(Words.message(Words.struct(0, 0, 2),
                    Words.struct(1, 0, 1), pairs[i][1], pairs[i][0])::form), want[i]);
        }
    }

    /** "Word i of the latest form; 0 when there is none." */
    private static void formedOutside() {
        for (int words : new int[] {1, 2, 63}) {
            PointedWords x = filledRoot(words);
            x.form();
            checks.due("the first", x.formed(0), Words.struct(0, words, 0));
            checks.due("the last", x.formed(words), 7L);
            for (int i : new int[] {LEAST, LEAST + 1, -64, -1, words + 1, 64, 65, 256, MOST}) {
                checks.due("formed(" + i + ") of " + words, x.formed(i), 0L);
            }
        }
        PointedWords y = filledRoot(63);
        y.form();
        y.change(0, 0, Words.struct(0, 1, 0));
        y.form();
        for (int i = 2; i < 65; i++) {
            checks.due("behind a shorter form", y.formed(i), 0L);
        }
    }

    /** "(Forms stay when the message changes.)" */
    private static void formsStay() {
        PointedWords x = filledRoot(2);
        x.form();
        String before = Words.formText(x, 65);
        x.add(0, 5);
        checks.due("after add", Words.formText(x, 65), before);
        x.change(0, 1, 5);
        checks.due("after change", Words.formText(x, 65), before);
        x.cut(0, 0);
        checks.due("after cut", Words.formText(x, 65), before);
        x.adopt();
        checks.due("after adopt", Words.formText(x, 65), before);
        x.change(0, 1, 6);
        x.cut(0, 2);
        checks.due("after change of what was adopted", Words.formText(x, 65), before);
        x.budget(0);
        Checks.answer(x::open);
        checks.due("after budget and open", Words.formText(x, 65), before);
    }

    /** "The message becomes the latest form, as segment 0; the other segments have no words." */
    private static void adoptTheForm() {
        for (int words : new int[] {0, 1, 63}) {
            PointedWords x = words == 0 ? Words.message(EMPTY) : filledRoot(words);
            x.form();
            for (int s = 0; s < 4; s++) {
                for (int i = x.words(s); i < 64; i++) {
                    x.add(s, 9);
                }
            }
            checks.due("adopt", x.adopt(), true);
            checks.due("segment 0", x.words(0), words + 1);
            checks.due("its first word", x.word(0, 0), x.formed(0));
            checks.due("its last word", x.word(0, words), x.formed(words));
            checks.due("behind it", x.word(0, words + 1), 0L);
            for (int s = 1; s < 4; s++) {
                checks.due("segment " + s, x.words(s), 0);
                checks.due("its word", x.word(s, 0), 0L);
            }
            checks.due("add behind it", x.add(0, 5), words == 63 ? -1 : words + 1);
            checks.due("open", Checks.answer(x::open), words);
        }
    }

    /** "False when there is no form." */
    private static void adoptWithoutAForm() {
        PointedWords x = filledRoot(2);
        x.open();
        checks.due("adopt", x.adopt(), false);
        checks.due("the words stay", x.words(0), 3);
        checks.due("the handles stay", x.left(), 61);
        x.form();
        checks.due("adopt", x.adopt(), true);
        checks.due("adopt again", x.adopt(), true);
        x.cut(0, 0);
        checks.due("adopt without a message", x.adopt(), true);
        checks.due("the words", x.words(0), 3);
    }

    /** "The latest form is kept, in place of one that was." */
    private static void keepInPlace() {
        PointedWords x = filledRoot(3);
        x.form();
        checks.due("keep", x.keep(), true);
        checks.due("keep again", x.keep(), true);
        x.change(0, 1, 8);
        x.form();
        checks.due("another form", x.same(), false);
        checks.due("keep", x.keep(), true);
        checks.due("in its place", x.same(), true);
        x.change(0, 1, 7);
        x.form();
        checks.due("the one before is no longer kept", x.same(), false);
        checks.due("a word of it stays", x.formed(1), 7L);
    }

    /** keep: "False when there is no form." */
    private static void keepWithoutAForm() {
        PointedWords x = filledRoot(2);
        checks.due("keep", x.keep(), false);
        x.form();
        checks.due("none was kept", x.same(), false);
        checks.due("keep", x.keep(), true);
    }

    /** "Whether the latest form and the one that is kept are the same" */
    private static void sameForms() {
        for (int i = 0; i < 64; i++) {
            PointedWords x = filledRoot(63);
            x.form();
            x.keep();
            checks.due("same", x.same(), true);
            x.change(0, i, i == 0 ? Words.struct(0, 62, 0) : Long.MIN_VALUE);
            checks.due("the message counts for nothing", x.same(), true);
            x.form();
            checks.due("word " + i + " differs", x.same(), false);
            x.change(0, i, i == 0 ? Words.struct(0, 63, 0) : 7);
            x.form();
            checks.due("same again", x.same(), true);
        }
        PointedWords y = Words.message(Words.struct(0, 2, 0), 5, 0);
        y.form();
        y.keep();
        y.change(0, 0, Words.struct(0, 1, 1));
        y.form();
        checks.due("another message of the same form", y.same(), true);
        PointedWords z = Words.message(Words.struct(0, 1, 0), Words.list(0, 0, 1));
        z.form();
        z.keep();
        z.change(0, 0, Words.struct(0, 0, 1));
        z.form();
        checks.due("word 0 alone differs", z.same(), false);
        PointedWords w = Words.message(Words.struct(0, 0, 1), Words.list(0, 0, 0));
        w.form();
        w.keep();
        w.change(0, 1, Words.list(0, 0, 1));
        w.form();
        checks.due("the last of two alone differs", w.same(), false);
    }

    /** "false, too, when one is not there" */
    private static void sameWhenOneIsNotThere() {
        PointedWords x = new PointedWords();
        checks.due("neither", x.same(), false);
        checks.due("keep none", x.keep(), false);
        checks.due("neither still", x.same(), false);
        x.add(0, EMPTY);
        x.form();
        checks.due("none is kept", x.same(), false);
        x.keep();
        checks.due("both", x.same(), true);
        x.cut(0, 0);
        checks.due("both, without a message", x.same(), true);
    }

    /** The form of a message that is a form already is the same. */
    private static void formOfAForm() {
        PointedWords[] messages = {Words.message(EMPTY), filledRoot(63),
            Words.message(Words.struct(0, 0, 2), Words.list(0, 0, 4), Words.list(0, 2, 0)),
            elements(Words.tag(2, 2, 2), 5, 0, 0, 0, 0, 0, Words.list(1, 1, 3), 0, -1)};
        for (PointedWords x : messages) {
            int words = x.form();
            x.keep();
            x.adopt();
            checks.due("as many words", Checks.answer(x::form), words);
            checks.due("the same", x.same(), true);
        }
    }
}
