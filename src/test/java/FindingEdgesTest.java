/** The boundary cases of finding: its order, depth, cost and the root, sentence by sentence. */
public final class FindingEdgesTest {
    private static final String OUT = "throws.IndexOutOfBoundsException";
    private static final String BAD = "throws.IllegalArgumentException";
    private static final String STATE = "throws.IllegalStateException";
    private static final String NONE_SUCH = "throws.NoSuchElementException";
    private static final Checks checks = new Checks();

    public static void main(String[] args) {
        missingPadBeforeBadPad();
        badPadBeforeBeginning();
        beginningBeforeTag();
        allBeforeDepth();
        allBeforeCost();
        depthIsAtMost8();
        depthThroughLists();
        depthThroughPads();
        nullAtTheGreatestDepth();
        costOfStructs();
        costOfLists();
        costOfStructLists();
        costIsAtLeastOne();
        costIsTaken();
        noWordForTheRoot();
        rootIsNull();
        rootIsAList();
        rootIsNotFound();
        rootHasDepth1();
        elementHasItsListsDepth();
        checks.end();
    }

    /** The same is due of go() from the root and of form(). */
    private static void due(String what, PointedWords x, String want) {
        x.open();
        int left = x.left();
        checks.due(what + ": go", Checks.answer(() -> x.go(0, 0)), want);
        checks.due(what + ": left", x.left(), left);
        checks.due(what + ": form", Checks.answer(x::form), want);
    }

    private static PointedWords twoWordPad(long first, long second) {
        return Words.fill(Words.pointing(Words.farOfTwo(1, 0)), 1, first, second);
    }

    /** "a pad that is not there: IndexOutOfBoundsException; ... a pad that is not as said" */
    private static void missingPadBeforeBadPad() {
        for (long first : new long[] {0, 3, -1, Words.struct(0, 1, 0), Words.farOfTwo(0, 0)}) {
            PointedWords x = twoWordPad(first, 0);
            due("both words, not as said", x, BAD);
            x.cut(1, 1);
            due("a first word of " + first + " and no second", x, OUT);
        }
        PointedWords y = twoWordPad(Words.far(0, 0), 3);
        due("the second not as said", y, BAD);
        y.cut(1, 1);
        due("no second", y, OUT);
    }

    /** "... not as said, null for instance: IllegalArgumentException; its beginning is not ..." */
    private static void badPadBeforeBeginning() {
        long[] outside = {Words.far(4, 0), Words.far(-1, 0), Words.far(0, 99), Words.far(2, 1)};
        for (long first : outside) {
            due("null, begun outside", twoWordPad(first, 0), BAD);
            due("bits 3, begun outside", twoWordPad(first, 3), BAD);
            due("far, begun outside", twoWordPad(first, Words.far(0, 0)), BAD);
            due("as said, begun outside", twoWordPad(first, Words.struct(0, 1, 0)), OUT);
        }
        due("no beginning, too many words",
                twoWordPad(Words.struct(0, 1, 0), Words.struct(0, 99, 0)), BAD);
        due("bits 3 that would lead out", Words.pointing(Words.struct(50, 9, 9) | 3), BAD);
        due("a pad of bits 3 that would lead out",
                Words.fill(Words.pointing(Words.far(1, 0)), 1, Words.struct(50, 9, 9) | 3), BAD);
    }

    /** "or one of its words, the tag too, is behind that: ...; a tag that is none, or ..." */
    private static void beginningBeforeTag() {
        long[] noTags = {1, 2, 3, -1, Words.tag(9, 1, 0)};
        for (long tag : noTags) {
            due("as many words as said", Words.pointing(Words.list(0, 7, 2), tag, 0, 0), BAD);
            due("a word too few", Words.pointing(Words.list(0, 7, 2), tag, 0), OUT);
            due("no word but the tag", Words.pointing(Words.list(0, 7, 2), tag), OUT);
            due("most words", Words.pointing(Words.list(0, 7, (1 << 29) - 1), tag), OUT);
        }
        due("the tag itself is behind", Words.pointing(Words.list(1, 7, 0), 1), OUT);
    }

    /** A chain of structs in segment 0, the last one of this depth having this pointer. */
    private static PointedWords chainTo(int depth, long pointer, long... behind) {
        PointedWords x = new PointedWords();
        for (int d = 1; d <= depth; d++) {
            x.add(0, Words.struct(0, 0, 1));
        }
        x.add(0, pointer);
        return Words.fill(x, 0, behind);
    }

    /** Goes down a chain; answers what the last pointer leads to. */
    private static Object endOfChain(PointedWords x, int depth) {
        x.open();
        for (int h = 0; h + 1 < depth; h++) {
            int from = h;
            checks.due("down the chain", Checks.answer(() -> x.go(from, 0)), h + 1);
        }
        return Checks.answer(() -> x.go(depth - 1, 0));
    }

    private static void dueAtDepth9(String what, String want, long pointer, long... behind) {
        PointedWords x = chainTo(8, pointer, behind);
        checks.due(what + " at depth 9: go", endOfChain(x, 8), want);
        checks.due(what + " at depth 9: left", x.left(), 55);
        checks.due(what + " at depth 9: form", Checks.answer(x::form), want);
    }

    /** All that finding looks at comes "in this order", the depth behind the tag. */
    private static void allBeforeDepth() {
        dueAtDepth9("no pad", OUT, Words.far(1, 0));
        dueAtDepth9("a pad of two words without the second", OUT, Words.farOfTwo(0, 8));
        dueAtDepth9("a null pad", BAD, Words.far(0, 9), 0);
        dueAtDepth9("bits 3", BAD, 3);
        dueAtDepth9("a struct outside", OUT, Words.struct(0, 1, 0));
        dueAtDepth9("a list outside", OUT, Words.list(0, 1, 1));
        dueAtDepth9("no tag", BAD, Words.list(0, 7, 0), 1);
        dueAtDepth9("too many elements", BAD, Words.list(0, 7, 0), Words.tag(1, 1, 0));
        dueAtDepth9("a struct", STATE, Words.struct(0, 1, 0), 5);
        dueAtDepth9("an empty struct", STATE, Words.struct(-1, 0, 0));
        dueAtDepth9("a list", STATE, Words.list(0, 5, 1), 5);
        dueAtDepth9("structs", STATE, Words.list(0, 7, 0), Words.tag(1, 0, 0));
    }

    private static void dueWithNoneLeft(String what, String want, long pointer, long... behind) {
        PointedWords x = Words.pointing(pointer, behind);
        x.budget(1);
        due(what + " with none left", x, want);
        checks.due(what + ": none is left", x.left(), 0);
    }

    /** "its COST is more than is left of the budget" comes last. */
    private static void allBeforeCost() {
        dueWithNoneLeft("no pad", OUT, Words.far(1, 0));
        dueWithNoneLeft("a null pad", BAD, Words.far(0, 2), 0);
        dueWithNoneLeft("bits 3", BAD, 3);
        dueWithNoneLeft("a struct outside", OUT, Words.struct(0, 1, 0));
        dueWithNoneLeft("no tag", BAD, Words.list(0, 7, 0), 1);
        dueWithNoneLeft("too many elements", BAD, Words.list(0, 7, 0), Words.tag(1, 1, 0));
        dueWithNoneLeft("a struct", STATE, Words.struct(0, 1, 0), 5);
        dueWithNoneLeft("a list", STATE, Words.list(0, 0, 0));
    }

    /** "its DEPTH ... is above 8: IllegalStateException" */
    private static void depthIsAtMost8() {
        for (int depth = 1; depth <= 8; depth++) {
            PointedWords x = chainTo(depth, Words.struct(-1, 0, 0));
            Object answer = endOfChain(x, depth);
            checks.due("go to depth " + (depth + 1), answer, depth < 8 ? (Object) depth : STATE);
            checks.due("form to depth " + (depth + 1), Checks.answer(x::form),
                    depth < 8 ? (Object) (depth + 1) : STATE);
            for (int h = 0; h < depth; h++) {
                checks.due("the depth of " + h, x.about(h, 6), h + 1);
            }
        }
    }

    /** The depth counts every object on the way, lists too. */
    private static void depthThroughLists() {
        PointedWords x = new PointedWords();
        x.add(0, Words.struct(0, 0, 1));
        for (int d = 2; d <= 8; d++) {
            x.add(0, Words.list(0, 6, 1));
        }
        x.add(0, Words.list(0, 0, 1));
        checks.due("pointers down to depth 9", endOfChain(x, 8), STATE);
        checks.due("their depth", x.about(7, 6), 8);
        checks.due("form", Checks.answer(x::form), STATE);
        x.change(0, 8, 0);
        checks.due("pointers down to depth 8", Checks.answer(x::form), 9);
    }

    /** A pad is no object: it adds nothing to the depth, and costs nothing. */
    private static void depthThroughPads() {
        PointedWords x = Words.message(Words.far(1, 0));
        for (int d = 1; d <= 8; d++) {
            Words.fill(x, 1, Words.struct(0, 0, 1), Words.far(1, 2 * d));
        }
        x.add(1, Words.struct(-1, 0, 0));
        checks.due("by pads down to depth 9", endOfChain(x, 8), STATE);
        checks.due("the depth", x.about(7, 6), 8);
        checks.due("left", x.left(), 55);
        checks.due("form", Checks.answer(x::form), STATE);
        x.change(1, 15, 0);
        checks.due("by pads down to depth 8", Checks.answer(x::form), 8);
        x.change(1, 13, Words.far(1, 16));
        checks.due("the last one by a pad", Checks.answer(x::form), 8);
    }

    /** A null pointer leads to nothing, at any depth. */
    private static void nullAtTheGreatestDepth() {
        PointedWords x = chainTo(8, 0);
        checks.due("null at depth 8", endOfChain(x, 8), -1);
        checks.due("form", Checks.answer(x::form), 8);
        PointedWords y = chainTo(8, 0, Words.struct(-1, 0, 0));
        y.change(0, 7, Words.struct(0, 0, 2));
        checks.due("behind a null one", Checks.answer(y::form), STATE);
        y.change(0, 9, 0);
        checks.due("null ones at depth 8", Checks.answer(y::form), 8);
    }

    /** The least budget with which the root, of cost 1, and this are found is 1 more. */
    private static void costs(String what, int cost, PointedWords x) {
        x.budget(cost);
        x.open();
        checks.due(what + ": left before", x.left(), cost - 1);
        checks.due(what + ": one too few", Checks.answer(() -> x.go(0, 0)), STATE);
        checks.due(what + ": left then", x.left(), cost - 1);
        checks.due(what + ": one too few for the form", Checks.answer(x::form), STATE);
        x.budget(cost + 1);
        x.open();
        checks.due(what + ": just enough", Checks.answer(() -> x.go(0, 0)), 1);
        checks.due(what + ": none left", x.left(), 0);
        checks.due(what + ": again", Checks.answer(() -> x.go(0, 0)), STATE);
        checks.due(what + ": form", Checks.answer(x::form) instanceof Integer, true);
    }

    private static PointedWords behind(long pointer, int words) {
        return Words.pointing(pointer, Words.repeated(0, words));
    }

    /** "The cost of a struct is the number of its words" */
    private static void costOfStructs() {
        costs("a data word", 1, behind(Words.struct(0, 1, 0), 1));
        costs("a pointer", 1, behind(Words.struct(0, 0, 1), 1));
        costs("one of each", 2, behind(Words.struct(0, 1, 1), 2));
        costs("62 words", 62, behind(Words.struct(0, 40, 22), 62));
    }

    /** "that of a list of kind 0 its number of elements, of kinds 1 .. 6 its words" */
    private static void costOfLists() {
        costs("one of 0 bits", 1, behind(Words.list(0, 0, 1), 0));
        costs("two of 0 bits", 2, behind(Words.list(0, 0, 2), 0));
        costs("62 of 0 bits", 62, behind(Words.list(0, 0, 62), 0));
        due("63 of 0 bits", behind(Words.list(0, 0, 63), 0), STATE);
        int[] inWord = {0, 64, 8, 4, 2, 1, 1};
        for (int kind = 1; kind <= 6; kind++) {
            costs("one of kind " + kind, 1, behind(Words.list(0, kind, 1), 1));
            costs("a word of kind " + kind, 1, behind(Words.list(0, kind, inWord[kind]), 1));
            costs("one more of kind " + kind, 2, behind(Words.list(0, kind, inWord[kind] + 1), 2));
            costs("most of kind " + kind, 62, behind(Words.list(0, kind, 62 * inWord[kind]), 62));
        }
    }

    private static PointedWords structs(int n, long tag) {
        return Words.fill(Words.pointing(Words.list(0, 7, n), tag), 0, Words.repeated(0, n));
    }

    /** "of kind 7 the greater of n and m, and 1" */
    private static void costOfStructLists() {
        costs("n 0, m 0", 1, structs(0, Words.tag(0, 0, 0)));
        costs("n 1, m 0", 2, structs(1, Words.tag(0, 0, 0)));
        costs("n 0, m 1", 2, structs(0, Words.tag(1, 0, 0)));
        costs("n 1, m 1", 2, structs(1, Words.tag(1, 1, 0)));
        costs("n 5, m 4", 6, structs(5, Words.tag(4, 1, 0)));
        costs("n 4, m 5", 6, structs(4, Words.tag(5, 0, 0)));
        costs("n 61, m 0", 62, structs(61, Words.tag(0, 9, 9)));
        costs("n 61, m 61", 62, structs(61, Words.tag(61, 0, 1)));
        costs("n 0, m 61", 62, structs(0, Words.tag(61, 0, 0)));
        due("n 0, m 62", structs(0, Words.tag(62, 0, 0)), STATE);
        due("n 0, m most", structs(0, Words.tag((1 << 30) - 1, 0, 0)), STATE);
    }

    /** "it is at least 1 for any" */
    private static void costIsAtLeastOne() {
        costs("an empty struct", 1, behind(Words.struct(-1, 0, 0), 0));
        for (int kind = 0; kind <= 6; kind++) {
            costs("none of kind " + kind, 1, behind(Words.list(0, kind, 0), 0));
        }
        PointedWords x = Words.message(Words.struct(-1, 0, 0));
        x.budget(0);
        checks.due("an empty root for 0", Checks.answer(x::open), STATE);
        x.budget(1);
        checks.due("an empty root for 1", Checks.answer(x::open), 0);
        checks.due("none left", x.left(), 0);
    }

    /** "Then the cost is taken from what is left." */
    private static void costIsTaken() {
        PointedWords x = Words.message(Words.struct(0, 0, 3), Words.struct(2, 5, 0),
                Words.list(1, 0, 7), Words.list(0, 7, 4), Words.tag(2, 1, 1), 0, 0, 0, 0);
        x.open();
        checks.due("left by the root", x.left(), 60);
        x.go(0, 0);
        checks.due("left by a struct of 5", x.left(), 55);
        x.go(0, 1);
        checks.due("left by 7 of 0 bits", x.left(), 48);
        x.go(0, 2);
        checks.due("left by structs", x.left(), 43);
        x.go(0, 0);
        checks.due("left by the same again", x.left(), 38);
    }

    private static void dueOfRoot(String what, PointedWords x, String want) {
        checks.due(what + ": open", Checks.answer(x::open), want);
        checks.due(what + ": left", x.left(), 0);
        checks.due(what + ": form", Checks.answer(x::form), want);
        checks.due(what + ": no form", x.keep(), false);
    }

    /** "When there is no such word, that is an IndexOutOfBoundsException" */
    private static void noWordForTheRoot() {
        dueOfRoot("no words", new PointedWords(), OUT);
        dueOfRoot("words in segment 1", Words.fill(new PointedWords(), 1, 0xFFFFFFFCL), OUT);
        PointedWords x = Words.message(Words.struct(-1, 0, 0));
        x.cut(0, 0);
        dueOfRoot("cut to none", x, OUT);
        x.budget(0);
        dueOfRoot("no word, no budget", x, OUT);
        x.add(0, Words.struct(-1, 0, 0));
        x.budget(1);
        checks.due("one word", Checks.answer(x::open), 0);
    }

    /** "when it is null, a NoSuchElementException" */
    private static void rootIsNull() {
        dueOfRoot("0", Words.message(0), NONE_SUCH);
        dueOfRoot("0 and more", Words.message(Words.repeated(0, 64)), NONE_SUCH);
        PointedWords x = Words.message(0);
        x.budget(0);
        dueOfRoot("0, no budget", x, NONE_SUCH);
        dueOfRoot("a null pad is another thing", Words.message(Words.far(0, 1), 0), BAD);
    }

    /** "when it is found to be a list, an IllegalArgumentException (before its depth and cost)" */
    private static void rootIsAList() {
        for (int kind = 0; kind < 8; kind++) {
            for (int budget : new int[] {0, 63}) {
                PointedWords x = Words.message(Words.list(0, kind, 0), 0);
                x.budget(budget);
                dueOfRoot("none of kind " + kind + " for " + budget, x, BAD);
                PointedWords y = Words.message(Words.list(0, kind, 1), 0, 0);
                y.budget(budget);
                dueOfRoot("one of kind " + kind + " for " + budget, y, BAD);
            }
            PointedWords z = Words.message(Words.far(1, 0));
            dueOfRoot("by a pad", Words.fill(z, 1, Words.list(0, kind, 0), 0), BAD);
        }
        dueOfRoot("dear", Words.message(Words.list(0, 0, (1 << 29) - 1)), BAD);
        dueOfRoot("elements without words", Words.message(Words.list(0, 7, 0), 0xFFFFFFFCL), BAD);
    }

    /** "Throws what is said at the root and at finding": a list outside is not found. */
    private static void rootIsNotFound() {
        for (int kind = 1; kind < 8; kind++) {
            dueOfRoot("a list outside", Words.message(Words.list(0, kind, 1)), OUT);
            dueOfRoot("a list begun outside", Words.message(Words.list(1, kind, 0)), OUT);
        }
        dueOfRoot("a list of 0 bits begun outside", Words.message(Words.list(1, 0, 0)), OUT);
        dueOfRoot("no tag", Words.message(Words.list(0, 7, 0), 3), BAD);
        dueOfRoot("no pad", Words.message(Words.far(1, 0)), OUT);
        dueOfRoot("half a pad", Words.message(Words.farOfTwo(0, 0)), OUT);
        dueOfRoot("itself as its pad", Words.message(Words.far(0, 0)), BAD);
        dueOfRoot("bits 3", Words.message(3), BAD);
        dueOfRoot("a struct outside", Words.message(Words.struct(0, 1, 0)), OUT);
        dueOfRoot("a struct before", Words.message(Words.struct(-2, 0, 0)), OUT);
        PointedWords x = Words.message(Words.struct(0, 1, 0));
        x.budget(0);
        dueOfRoot("a struct outside, no budget", x, OUT);
        x.add(0, 5);
        dueOfRoot("a struct, no budget", x, STATE);
    }

    /** "its depth is 1" */
    private static void rootHasDepth1() {
        PointedWords x = Words.message(Words.struct(-1, 0, 1));
        x.open();
        checks.due("the root", x.about(0, 6), 1);
        x.go(0, 0);
        checks.due("the same object, come to from the root", x.about(1, 6), 2);
        PointedWords y = Words.message(Words.farOfTwo(1, 0));
        Words.fill(y, 1, Words.far(3, 0), Words.struct(-1, 0, 0));
        y.open();
        checks.due("the root by pads", y.about(0, 6), 1);
    }

    /** "A struct that is an element has its list's depth." */
    private static void elementHasItsListsDepth() {
        for (int depth = 1; depth <= 7; depth++) {
            PointedWords x = chainTo(depth, Words.list(0, 7, 1), Words.tag(1, 0, 1),
                    Words.struct(-1, 0, 0));
            endOfChain(x, depth);
            checks.due("the list", x.about(depth, 6), depth + 1);
            checks.due("its element", x.element(depth, 0), depth + 1);
            checks.due("the element's depth", x.about(depth + 1, 6), depth + 1);
            int from = depth + 1;
            checks.due("from the element", Checks.answer(() -> x.go(from, 0)),
                    depth < 7 ? (Object) (depth + 2) : STATE);
            checks.due("form", Checks.answer(x::form),
                    depth < 7 ? (Object) (depth + 3) : STATE);
        }
    }
}
