import java.util.Random;

/** Lays out a message of sound objects at random, in four rows of at most 64 words. */
final class Builder {
    private static final int[] WIDTHS = {0, 1, 8, 16, 32, 64};

    final long[][] rows = new long[4][64];
    final int[] sizes = new int[4];
    private final Random random;

    Builder(Random random) {
        this.random = random;
        sizes[0] = 1;
        putStruct(0, 0, random.nextInt(3), 1 + random.nextInt(4), 1);
    }

    private boolean roomFor(int segment, int words) {
        return sizes[segment] + words <= 64;
    }

    private int take(int segment, int words) {
        sizes[segment] += words;
        return sizes[segment] - words;
    }

    /** Now and then as 0, so that the form has something to leave out. */
    private long dataWord() {
        return random.nextInt(3) == 0 ? 0 : random.nextInt(4) == 0 ? random.nextLong()
                : random.nextInt(100);
    }

    private void point(int segment, int i, int depth) {
        int which = random.nextInt(10);
        if (which < 2 || depth > 9 || !roomFor(segment, 12)) {
            return;
        }
        if (which < 5) {
            putStruct(segment, i, random.nextInt(3), random.nextInt(3), depth);
        } else if (which < 7) {
            putFlat(segment, i, random.nextInt(6));
        } else if (which == 7) {
            putPointers(segment, i, random.nextInt(4), depth);
        } else if (which == 8) {
            putStructs(segment, i, depth);
        } else {
            putFar(segment, i, random.nextInt(4), depth);
        }
    }

    private int gap(int segment) {
        return take(segment, random.nextInt(6) == 0 ? 1 : 0);
    }

    private void putStruct(int segment, int i, int d, int p, int depth) {
        gap(segment);
        int first = take(segment, d + p);
        rows[segment][i] = Words.struct(d + p == 0 ? -1 : first - i - 1, d, p);
        fillStruct(segment, first, d, p, depth);
    }

    private void fillStruct(int segment, int first, int d, int p, int depth) {
        for (int k = 0; k < d; k++) {
            rows[segment][first + k] = dataWord();
        }
        for (int k = 0; k < p; k++) {
            point(segment, first + d + k, depth + 1);
        }
    }

    private void putFlat(int segment, int i, int kind) {
        int n = random.nextInt(kind == 1 ? 130 : 10);
        if (kind == 0 && random.nextInt(3) > 0) {
            n = n % 3;
        }
        gap(segment);
        int first = take(segment, (n * WIDTHS[kind] + 63) / 64);
        rows[segment][i] = Words.list(first - i - 1, kind, n);
        for (int w = first; w < sizes[segment]; w++) {
            rows[segment][w] = random.nextLong();
        }
    }

    private void putPointers(int segment, int i, int n, int depth) {
        gap(segment);
        int first = take(segment, n);
        rows[segment][i] = Words.list(first - i - 1, 6, n);
        for (int k = 0; k < n; k++) {
            point(segment, first + k, depth + 1);
        }
    }

    private void putStructs(int segment, int i, int depth) {
        int m = random.nextInt(4);
        int d = random.nextInt(3);
        int p = random.nextInt(2);
        int n = m * (d + p) + (random.nextInt(4) == 0 ? 1 : 0);
        int first = take(segment, 1 + n);
        rows[segment][i] = Words.list(first - i - 1, 7, n);
        rows[segment][first] = Words.tag(m, d, p);
        for (int e = 0; e < m; e++) {
            fillStruct(segment, first + 1 + e * (d + p), d, p, depth);
        }
    }

    /** By a pad of one word in the other segment, or by one of two words in a third. */
    private void putFar(int segment, int i, int other, int depth) {
        if (!roomFor(other, 16)) {
            return;
        }
        int pad = take(other, 1);
        if (random.nextBoolean()) {
            rows[segment][i] = Words.far(other, pad);
            rows[other][pad] = Words.list(0, 0, 1);
            if (random.nextInt(4) > 0) {
                putStruct(other, pad, random.nextInt(3), random.nextInt(3), depth);
            }
            return;
        }
        int third = random.nextInt(4);
        if (!roomFor(third, 16)) {
            return;
        }
        take(other, 1);
        rows[segment][i] = Words.farOfTwo(other, pad);
        int d = random.nextInt(3);
        int first = take(third, d + 1);
        rows[other][pad] = Words.far(third, first);
        rows[other][pad + 1] = Words.struct(random.nextInt(), d, 1);
        fillStruct(third, first, d, 1, depth);
    }
}
