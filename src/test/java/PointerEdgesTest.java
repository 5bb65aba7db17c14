/** The boundary cases of the bits of pointers and tags, each sentence with a test of its own. */
public final class PointerEdgesTest {
    private static final String OUT = "throws.IndexOutOfBoundsException";
    private static final String BAD = "throws.IllegalArgumentException";
    private static final String STATE = "throws.IllegalStateException";
    private static final int[] WIDTHS = {0, 1, 8, 16, 32, 64};
    private static final long MOST_N = (1L << 29) - 1;
    private static final Checks checks = new Checks();

    public static void main(String[] args) {
        nullPointer();
        structBegins();
        farthestOffsets();
        dataWordsOfAStruct();
        pointersOfAStruct();
        listBegins();
        kindOfAList();
        numberOfAList();
        wordsThatElementsNeed();
        longestFlatLists();
        pointersOneAWord();
        tagAndWordsBehindIt();
        bitsOfATag();
        elementsOfATag();
        elementsThatNeedAtMostN();
        elementsOneBehindTheOther();
        segmentOfAPad();
        wordOfAPad();
        padOfOneWord();
        padOfTwoWords();
        beginningByTwoWords();
        offsetNotLookedAt();
        bitsForNothing();
        objectsInEachSegment();
        checks.end();
    }

    /** What the root's one pointer leads to: its parts and its cost, or what finding throws. */
    private static String outcome(PointedWords x) {
        x.open();
        int left = x.left();
        Object answer = Checks.answer(() -> x.go(0, 0));
        if (answer instanceof Integer && (Integer) answer == 1) {
            return Words.parts(x, 1) + " for " + (left - x.left());
        }
        checks.due("nothing is taken", x.left(), left);
        return answer.toString();
    }

    private static void due(String what, PointedWords x, String want) {
        checks.due(what, outcome(x), want);
    }

    /** A full segment whose word i, the pointer of the root, is this one. */
    private static PointedWords pointerAt(int i, long pointer) {
        PointedWords x = Words.message(Words.repeated(0, 64));
        x.change(0, 0, Words.struct(i - 1, 0, 1));
        x.change(0, i, pointer);
        return x;
    }

    /** "A word of 0 is a NULL pointer: it leads to nothing." */
    private static void nullPointer() {
        PointedWords x = Words.pointing(0);
        due("null", x, "-1");
        checks.due("its form", x.form(), 1);
        due("the least that is not null", Words.pointing(1), "1 0 0 0 0 2 2 for 1");
        due("a struct, null but for b", Words.pointing(4, 0), "0 0 0 0 0 3 2 for 1");
        due("null but for d", Words.pointing(1L << 32, 0), "0 1 0 0 0 2 2 for 1");
        due("null but for p", Words.pointing(1L << 48, 0), "0 0 1 0 0 2 2 for 1");
        due("null but for the highest bit", Words.pointing(Long.MIN_VALUE, 0), OUT);
    }

    /** "the struct begins with word i + 1 + b of the same segment", from 0 to its end. */
    private static void structBegins() {
        for (int i : new int[] {1, 2, 31, 62, 63}) {
            for (int b = -70; b <= 70; b++) {
                int begin = i + 1 + b;
                boolean one = begin >= 0 && begin + 1 <= 64;
                due("a word at " + i + " with " + b, pointerAt(i, Words.struct(b, 1, 0)),
                        one ? "0 1 0 0 0 " + begin + " 2 for 1" : OUT);
                boolean empty = begin >= 0 && begin <= 64;
                due("no word at " + i + " with " + b, pointerAt(i, Words.struct(b, 0, 0)),
                        b == 0 ? "-1" : empty ? "0 0 0 0 0 " + begin + " 2 for 1" : OUT);
                boolean three = begin >= 0 && begin + 3 <= 64;
                due("three words at " + i + " with " + b, pointerAt(i, Words.struct(b, 1, 2)),
                        three ? "0 1 2 0 0 " + begin + " 2 for 3" : OUT);
            }
        }
    }

    /** "b its bits 2 .. 31 with sign": none of them is left out, and the last one is the sign. */
    private static void farthestOffsets() {
        for (int bit = 6; bit <= 29; bit++) {
            long b = 1L << bit;
            for (long near = -2; near <= 2; near++) {
                due("b " + bit, pointerAt(8, Words.struct(b + near, 1, 0)), OUT);
                due("b -" + bit, pointerAt(8, Words.struct(near - b - 9, 1, 0)), OUT);
                due("list's b " + bit, pointerAt(8, Words.list(b + near, 5, 1)), OUT);
                due("list's b -" + bit, pointerAt(8, Words.list(near - b - 9, 5, 1)), OUT);
            }
        }
        for (long b : new long[] {-(1L << 29), 1 - (1L << 29), (1L << 29) - 1, (1L << 29) - 2}) {
            due("an empty struct far out", pointerAt(8, Words.struct(b, 0, 0)), OUT);
            due("an empty list far out", pointerAt(8, Words.list(b, 2, 0)), OUT);
            due("a tag far out", pointerAt(8, Words.list(b, 7, 0)), OUT);
        }
        due("the same segment", Words.fill(Words.pointing(Words.struct(0, 1, 0)), 1, 5, 5, 5), OUT);
    }

    /** "d its bits 32 .. 47" */
    private static void dataWordsOfAStruct() {
        for (int bit = 0; bit < 16; bit++) {
            long d = 1L << bit;
            due("d " + d, pointerAt(1, Words.struct(0, d, 0)),
                    d < 62 ? "0 " + d + " 0 0 0 2 2 for " + d : OUT);
        }
        due("most that fit", pointerAt(1, Words.struct(0, 62, 0)), "0 62 0 0 0 2 2 for 62");
        due("one more", pointerAt(1, Words.struct(0, 63, 0)), OUT);
        due("most", pointerAt(1, Words.struct(0, 65535, 0)), OUT);
    }

    /** "p its bits 48 .. 63": "d DATA WORDS and behind them p pointers" */
    private static void pointersOfAStruct() {
        for (int bit = 0; bit < 16; bit++) {
            long p = 1L << bit;
            due("p " + p, pointerAt(1, Words.struct(0, 0, p)),
                    p < 62 ? "0 0 " + p + " 0 0 2 2 for " + p : OUT);
        }
        due("most that fit", pointerAt(1, Words.struct(0, 0, 62)), "0 0 62 0 0 2 2 for 62");
        due("one more", pointerAt(1, Words.struct(0, 0, 63)), OUT);
        due("both that fit", pointerAt(1, Words.struct(0, 31, 31)), "0 31 31 0 0 2 2 for 62");
        due("one more of d", pointerAt(1, Words.struct(0, 32, 31)), OUT);
        due("one more of p", pointerAt(1, Words.struct(0, 31, 32)), OUT);
        due("most", pointerAt(1, Words.struct(0, 0, 65535)), OUT);
        due("most of both", pointerAt(1, Words.struct(0, 65535, 65535)), OUT);
        PointedWords x = Words.message(Words.struct(0, 2, 2), 5, 6, Words.list(1, 0, 1),
                Words.list(0, 0, 2));
        x.open();
        checks.due("the last data word", x.data(0, 1), 6L);
        checks.due("behind it none", x.data(0, 2), 0L);
        checks.due("the first pointer", Checks.answer(() -> x.go(0, 0)), 1);
        checks.due("the last pointer", Checks.answer(() -> x.go(0, 1)), 2);
        checks.due("the first leads to", x.about(1, 1), 1);
        checks.due("the last leads to", x.about(2, 1), 2);
    }

    /** "a LIST, which begins with word i + 1 + b, too" */
    private static void listBegins() {
        for (int i : new int[] {1, 63}) {
            for (int b = -66; b <= 66; b++) {
                int begin = i + 1 + b;
                String tells = " 0 0 0 " + begin + " 2 for 1";
                for (int kind = 0; kind < 7; kind++) {
                    boolean none = begin >= 0 && begin <= 64;
                    due("none of " + kind + " at " + i + " with " + b,
                            pointerAt(i, Words.list(b, kind, 0)),
                            none ? kind + 1 + " 0" + tells : OUT);
                    boolean one = begin >= 0 && begin + (kind == 0 ? 0 : 1) <= 64;
                    due("one of " + kind + " at " + i + " with " + b,
                            pointerAt(i, Words.list(b, kind, 1)),
                            one ? kind + 1 + " 1" + tells : OUT);
                }
            }
        }
    }

    /** "its KIND k is in bits 32 .. 34" */
    private static void kindOfAList() {
        for (int kind = 0; kind < 8; kind++) {
            String begin = kind == 7 ? "3" : "2";
            due("kind " + kind, Words.pointing(Words.list(0, kind, 0), 0),
                    kind + 1 + " 0 0 0 0 " + begin + " 2 for 1");
        }
    }

    /** "a number n in bits 35 .. 63", without sign */
    private static void numberOfAList() {
        for (int bit = 0; bit < 29; bit++) {
            long n = 1L << bit;
            due("kind 0, n " + n, pointerAt(1, Words.list(0, 0, n)),
                    n < 62 ? "1 " + n + " 0 0 0 2 2 for " + n : STATE);
            due("kind 5, n " + n, pointerAt(1, Words.list(0, 5, n)),
                    n < 62 ? "6 " + n + " 0 0 0 2 2 for " + n : OUT);
            due("kind 6, n " + n, pointerAt(1, Words.list(0, 6, n)),
                    n < 62 ? "7 " + n + " 0 0 0 2 2 for " + n : OUT);
            due("kind 7, n " + n, pointerAt(1, Words.list(0, 7, n)),
                    n < 62 ? "8 0 0 0 0 3 2 for " + (n + 1) : OUT);
            long words = (n + 63) / 64;
            due("kind 1, n " + n, pointerAt(1, Words.list(0, 1, n)),
                    words < 62 ? "2 " + n + " 0 0 0 2 2 for " + words : OUT);
        }
        due("most of kind 0", pointerAt(1, Words.list(0, 0, MOST_N)), STATE);
        for (int kind = 1; kind < 8; kind++) {
            due("most of kind " + kind, pointerAt(1, Words.list(0, kind, MOST_N)), OUT);
        }
    }

    /** "as many words as these need (a last word in part)" */
    private static void wordsThatElementsNeed() {
        for (int kind = 1; kind < 6; kind++) {
            int inWord = 64 / WIDTHS[kind];
            for (int have = 0; have <= 2; have++) {
                for (int n = 0; n <= 2 * inWord + 1; n++) {
                    int need = (n + inWord - 1) / inWord;
                    due(n + " of kind " + kind + " in " + have + " words",
                            Words.pointing(Words.list(0, kind, n), Words.repeated(-1, have)),
                            need > have ? OUT : kind + 1 + " " + n + " 0 0 0 2 2 for "
                                    + Math.max(1, need));
                }
            }
        }
    }

    /** The most elements that a full segment has room for, and one more. */
    private static void longestFlatLists() {
        for (int kind = 1; kind < 6; kind++) {
            int most = 62 * 64 / WIDTHS[kind];
            PointedWords x = pointerAt(1, Words.list(0, kind, most));
            x.change(0, 63, Long.MIN_VALUE);
            due("most of " + kind, x, kind + 1 + " " + most + " 0 0 0 2 2 for 62");
            checks.due("the last one", x.data(1, most - 1), 1L << (WIDTHS[kind] - 1));
            checks.due("the first one", x.data(1, 0), 0L);
            due("one more of " + kind, pointerAt(1, Words.list(0, kind, most + 1)), OUT);
        }
    }

    /** "Kind 6: n pointers, one a word." */
    private static void pointersOneAWord() {
        for (int n = 0; n <= 3; n++) {
            due(n + " pointers in 2 words", Words.pointing(Words.list(0, 6, n), 0, 0),
                    n > 2 ? OUT : "7 " + n + " 0 0 0 2 2 for " + Math.max(1, n));
        }
        due("62", pointerAt(1, Words.list(0, 6, 62)), "7 62 0 0 0 2 2 for 62");
        due("63", pointerAt(1, Words.list(0, 6, 63)), OUT);
    }

    /** "Kind 7: a TAG and n words behind it." */
    private static void tagAndWordsBehindIt() {
        for (int n = 0; n <= 3; n++) {
            due("n " + n + " and two words behind the tag",
                    Words.pointing(Words.list(0, 7, n), Words.tag(0, 0, 0), 1, 1),
                    n > 2 ? OUT : "8 0 0 0 0 3 2 for " + (n + 1));
        }
        due("no tag there", Words.pointing(Words.list(0, 7, 0)), OUT);
        due("the tag as the last word", pointerAt(1, Words.list(61, 7, 0)), "8 0 0 0 0 64 2 for 1");
        due("the tag behind the last word", pointerAt(1, Words.list(62, 7, 0)), OUT);
        due("61 words", pointerAt(1, Words.list(0, 7, 61)), "8 0 0 0 0 3 2 for 62");
        due("62 words", pointerAt(1, Words.list(0, 7, 62)), OUT);
        due("the tag as the first word", Words.pointing(Words.list(-2, 7, 1)),
                "8 0 1 0 0 1 2 for 2");
    }

    /** "The tag's bits 0 and 1 are 0" */
    private static void bitsOfATag() {
        for (long bits = 0; bits < 4; bits++) {
            due("a tag of bits " + bits,
                    Words.pointing(Words.list(0, 7, 1), Words.tag(1, 1, 0) | bits, 5),
                    bits == 0 ? "8 1 0 1 0 3 2 for 2" : BAD);
            due("nothing but bits " + bits, Words.pointing(Words.list(0, 7, 0), bits),
                    bits == 0 ? "8 0 0 0 0 3 2 for 1" : BAD);
            due("all bits but " + bits, Words.pointing(Words.list(0, 7, 0), -4 | bits), BAD);
        }
    }

    /** "m its bits 2 .. 31 (without sign), d and p as above" */
    private static void elementsOfATag() {
        for (int bit = 0; bit < 30; bit++) {
            long m = 1L << bit;
            due("m " + m + " of none", Words.pointing(Words.list(0, 7, 0), Words.tag(m, 0, 0)),
                    m < 62 ? "8 " + m + " 0 0 0 3 2 for " + (m + 1) : STATE);
            due("m " + m + " of a word", Words.pointing(Words.list(0, 7, 0), Words.tag(m, 1, 0)),
                    BAD);
        }
        due("most without words", Words.pointing(Words.list(0, 7, 0), 0xFFFFFFFCL), STATE);
        due("most of a word", Words.pointing(Words.list(0, 7, 0), 0x1FFFFFFFCL), BAD);
        for (int bit = 0; bit < 16; bit++) {
            long size = 1L << bit;
            due("d " + size, Words.pointing(Words.list(0, 7, 0), Words.tag(0, size, 0)),
                    "8 0 0 " + size + " 0 3 2 for 1");
            due("p " + size, Words.pointing(Words.list(0, 7, 0), Words.tag(0, 0, size)),
                    "8 0 " + size + " 0 0 3 2 for 1");
        }
        due("most of both", Words.pointing(Words.list(0, 7, 0), Words.tag(0, 65535, 65535)),
                "8 0 65535 65535 0 3 2 for 1");
    }

    /** "these must be n words at most" */
    private static void elementsThatNeedAtMostN() {
        for (int n = 0; n <= 6; n++) {
            for (int m = 0; m <= 7; m++) {
                for (int size = 0; size <= 7; size++) {
                    int d = size / 2;
                    int p = size - d;
                    PointedWords x = Words.pointing(Words.list(0, 7, n), Words.tag(m, d, p));
                    Words.fill(x, 0, Words.repeated(0, 6));
                    due(m + " of " + size + " in " + n, x, m * size > n ? BAD : "8 " + m + " " + p
                            + " " + d + " 0 3 2 for " + (Math.max(n, m) + 1));
                }
            }
        }
        long[][] wraps = {{1 << 16, 65535, 1}, {1 << 15, 65535, 1}, {1 << 29, 8, 0},
            {1 << 29, 4, 0}, {1 << 28, 0, 16}, {(1 << 30) - 1, 65535, 65535}, {1 << 16, 1, 65535}};
        for (long[] tag : wraps) {
            due("a product beyond an int", Words.pointing(Words.list(0, 7, 1),
                    Words.tag(tag[0], tag[1], tag[2]), 0), BAD);
        }
    }

    /** "each a struct of d data words and p pointers, one behind the other from behind the tag" */
    private static void elementsOneBehindTheOther() {
        PointedWords x = Words.pointing(Words.list(0, 7, 7), Words.tag(3, 1, 1),
                10, 0, 11, 0, 12, Words.list(0, 0, 9), 99);
        x.open();
        x.go(0, 0);
        for (int k = 0; k < 3; k++) {
            checks.due("element " + k, x.element(1, k), k + 2);
            checks.due("its parts", Words.parts(x, k + 2), "0 1 1 0 0 " + (3 + 2 * k) + " 2");
            checks.due("its data", x.data(k + 2, 0), 10L + k);
        }
        checks.due("a null pointer", Checks.answer(() -> x.go(3, 0)), -1);
        checks.due("the last one's pointer", Checks.answer(() -> x.go(4, 0)), 5);
        checks.due("what it leads to", x.about(5, 1), 9);
    }

    /** Each segment has 64 words that are lists of 0 bits, of numbers that tell them apart. */
    private static PointedWords padsEverywhere(long pointer) {
        PointedWords x = new PointedWords();
        for (int s = 0; s < 4; s++) {
            for (int i = 0; i < 64; i++) {
                x.add(s, Words.list(0, 0, s * 10 + i % 10));
            }
        }
        x.change(0, 0, Words.struct(0, 0, 1));
        x.change(0, 1, pointer);
        return x;
    }

    private static String leadsTo(int segment, int i) {
        int n = segment * 10 + i % 10;
        return "1 " + n + " 0 0 " + segment + " " + (i + 1) + " 2 for " + Math.max(1, n);
    }

    /** "its bits 32 .. 63 name a segment ... (both without sign)" */
    private static void segmentOfAPad() {
        for (int s = 0; s < 4; s++) {
            due("segment " + s, padsEverywhere(Words.far(s, 7)), leadsTo(s, 7));
        }
        for (long s : new long[] {4, 5, 6, 7, 1L << 16, (1L << 31) - 1, 1L << 31, (1L << 31) + 1,
            (1L << 32) - 4, (1L << 32) - 1}) {
            due("segment " + s, padsEverywhere(Words.far(s, 7)), OUT);
            due("segment " + s + ", two words", padsEverywhere(Words.farOfTwo(s, 7)), OUT);
        }
        for (int bit = 2; bit < 32; bit++) {
            due("segment bit " + bit, padsEverywhere(Words.far(1L << bit, 7)), OUT);
            due("segment bit " + bit + ", two", padsEverywhere(Words.farOfTwo(1L << bit, 7)), OUT);
        }
    }

    /** "its bits 3 .. 31 a word in it (both without sign), the PAD" */
    private static void wordOfAPad() {
        for (int i = 0; i < 64; i++) {
            due("word " + i, padsEverywhere(Words.far(2, i)), leadsTo(2, i));
        }
        for (int bit = 6; bit < 29; bit++) {
            due("word bit " + bit, padsEverywhere(Words.far(2, 1L << bit)), OUT);
            due("word bit " + bit + ", two", padsEverywhere(Words.farOfTwo(2, 1L << bit)), OUT);
        }
        due("word 65", padsEverywhere(Words.far(2, 65)), OUT);
        due("most", padsEverywhere(Words.far(2, MOST_N)), OUT);
        due("most, two", padsEverywhere(Words.farOfTwo(2, MOST_N)), OUT);
        PointedWords x = Words.pointing(Words.far(1, 0));
        due("a pad in an empty segment", x, OUT);
        x.add(1, Words.list(0, 0, 3));
        due("a pad of the only word", x, "1 3 0 0 1 1 2 for 3");
    }

    /** "the pad is a struct or list pointer, and what this leads to from its own place is meant" */
    private static void padOfOneWord() {
        long[] notAsSaid = {0, 2, 6, 3, 7, -1, Words.far(0, 1), Words.farOfTwo(0, 1),
            Words.far(1, 0), Long.MAX_VALUE};
        for (long pad : notAsSaid) {
            due("a pad of " + pad, Words.fill(Words.pointing(Words.far(1, 0)), 1, pad), BAD);
        }
        for (int b = -4; b <= 3; b++) {
            PointedWords x = Words.pointing(Words.far(3, 2));
            Words.fill(x, 3, 5, 6, Words.struct(b, 1, 0), 8, 9);
            int begin = 3 + b;
            due("from the pad with " + b, x, begin < 0 || begin > 4 ? OUT
                    : "0 1 0 0 3 " + begin + " 2 for 1");
        }
    }

    private static PointedWords twoWordPad(long first, long second) {
        PointedWords x = Words.pointing(Words.farOfTwo(1, 62));
        Words.fill(x, 1, Words.repeated(5, 62));
        Words.fill(x, 1, first, second);
        return Words.fill(x, 3, Words.repeated(0, 4));
    }

    /** "If bit 2 is 1, the pad is two words" */
    private static void padOfTwoWords() {
        PointedWords x = twoWordPad(Words.far(3, 0), Words.struct(9, 1, 0));
        due("the last two words", x, "0 1 0 0 3 0 2 for 1");
        x.cut(1, 63);
        due("without the last one", x, OUT);
        x.cut(1, 62);
        due("without both", x, OUT);
        long[] firsts = {0, 3, 6, 7, -1, Words.struct(0, 1, 0), Words.list(0, 5, 1),
            Words.farOfTwo(3, 0), Words.far(3, 0) | 1};
        for (long first : firsts) {
            due("a first word of " + first, twoWordPad(first, Words.struct(0, 1, 0)), BAD);
        }
        long[] seconds = {0, 2, 3, 6, 7, -1, Words.far(3, 0), Words.farOfTwo(3, 0)};
        for (long second : seconds) {
            due("a second word of " + second, twoWordPad(Words.far(3, 0), second), BAD);
        }
        due("a first word of nothing but bit 1", twoWordPad(2, Words.struct(5, 1, 0)),
                "0 1 0 0 0 0 2 for 1");
    }

    /** "whose segment and word are where what is meant begins" */
    private static void beginningByTwoWords() {
        for (int s = 0; s < 4; s++) {
            int size = s == 0 ? 2 : s == 1 ? 64 : s == 2 ? 0 : 4;
            for (int i = 0; i <= 66; i++) {
                due("one at " + s + ", " + i, twoWordPad(Words.far(s, i), Words.struct(0, 1, 0)),
                        i + 1 > size ? OUT : "0 1 0 0 " + s + " " + i + " 2 for 1");
                due("none at " + s + ", " + i, twoWordPad(Words.far(s, i), Words.list(0, 2, 0)),
                        i > size ? OUT : "3 0 0 0 " + s + " " + i + " 2 for 1");
            }
        }
        for (int bit = 2; bit < 32; bit++) {
            due("segment bit " + bit,
                    twoWordPad(Words.far(1L << bit, 0), Words.list(0, 2, 0)), OUT);
        }
        for (int bit = 3; bit < 29; bit++) {
            due("word bit " + bit, twoWordPad(Words.far(3, 1L << bit), Words.list(0, 2, 0)), OUT);
        }
        due("the last segment", twoWordPad(Words.far(-1, 0), Words.list(0, 2, 0)), OUT);
        due("the last word", twoWordPad(Words.far(3, MOST_N), Words.list(0, 2, 0)), OUT);
        due("a tag at the end", twoWordPad(Words.far(3, 3), Words.list(0, 7, 0)),
                "8 0 0 0 3 4 2 for 1");
        due("a tag behind it", twoWordPad(Words.far(3, 4), Words.list(0, 7, 0)), OUT);
    }

    /** "(its b is not looked at)" */
    private static void offsetNotLookedAt() {
        for (long b : new long[] {-(1L << 29), -64, -1, 0, 1, 64, (1L << 29) - 1}) {
            due("struct with " + b, twoWordPad(Words.far(3, 1), Words.struct(b, 2, 1)),
                    "0 2 1 0 3 1 2 for 3");
            due("list with " + b, twoWordPad(Words.far(3, 1), Words.list(b, 5, 3)),
                    "6 3 0 0 3 1 2 for 3");
            due("structs with " + b, twoWordPad(Words.far(3, 1), Words.list(b, 7, 2)),
                    "8 0 0 0 3 2 2 for 3");
            due("empty with " + b, twoWordPad(Words.far(3, 1), Words.struct(b, 0, 0)),
                    b == 0 ? BAD : "0 0 0 0 3 1 2 for 1");
        }
    }

    /** "3 is for nothing." */
    private static void bitsForNothing() {
        for (long word : new long[] {3, 7, -1, Long.MIN_VALUE | 3, Long.MAX_VALUE,
            Words.struct(0, 1, 0) | 3, Words.list(0, 5, 1) | 3, Words.far(0, 0) | 3}) {
            due("bits 3: " + word, Words.pointing(word, 0, 0), BAD);
        }
    }

    /** All that a root in this segment leads to, in a message whose other words are bits 3. */
    private static PointedWords allIn(int segment) {
        PointedWords x = new PointedWords();
        for (int s = 0; s < 4; s++) {
            Words.fill(x, s, Words.repeated(-1, 12));
        }
        long[] words = {Words.struct(0, 1, 4), 100 + segment,
            Words.list(3, 2, 3), Words.list(3, 6, 1), Words.list(3, 7, 2), Words.struct(5, 1, 0),
            0x030201, Words.list(-2, 2, 2), Words.tag(1, 1, 1), 200 + segment,
            Words.list(-5, 2, 1), 300 + segment};
        for (int i = 0; i < words.length; i++) {
            x.change(segment, i, words[i]);
        }
        if (segment != 0) {
            x.change(0, 0, Words.far(segment, 0));
        }
        return x;
    }

    /** "of the same segment", for a pointer that stands in any of them: go, data and form */
    private static void objectsInEachSegment() {
        for (int s = 0; s < 4; s++) {
            PointedWords x = allIn(s);
            checks.due("open in " + s, Checks.answer(x::open), 5);
            int[] from = {0, 0, 2, 0, 5, 0};
            int[] k = {0, 1, 0, 2, 0, 3};
            int handle = 1;
            for (int g = 0; g < 6; g++) {
                int source = from[g];
                int pointer = k[g];
                checks.due("go in " + s, Checks.answer(() -> x.go(source, pointer)), handle);
                handle++;
                if (g == 3) {
                    checks.due("element in " + s, Checks.answer(() -> x.element(4, 0)), handle);
                    handle++;
                }
            }
            long[] data = {100 + s, 1, -1, 1, -1, 200 + s, 1, 300 + s};
            for (int h = 0; h < 8; h++) {
                checks.due("the segment of " + h, x.about(h, 4), s);
                if (data[h] >= 0) {
                    checks.due("the data of " + h + " in " + s, x.data(h, 0), data[h]);
                }
            }
            checks.due("form in " + s, Checks.answer(x::form), 14);
            checks.due("the form in " + s, Words.formText(x, 14), Words.text(
                    Words.struct(0, 1, 4), 100 + s, Words.list(3, 2, 3), Words.list(3, 6, 1),
                    Words.list(4, 7, 2), Words.struct(7, 1, 0), 0x030201, Words.list(0, 2, 2),
                    0x0201, Words.tag(1, 1, 1), 200 + s, Words.list(0, 2, 1), 0x01, 300 + s));
        }
    }
}
