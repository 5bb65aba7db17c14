import java.util.ArrayList;
import java.util.List;
import java.util.NoSuchElementException;

/**
 * The document written down a second time, as near to its words as can be and without care for
 * speed or room: bits are read one by one, rows are lists, and each object that is found is new.
 */
final class Model {
    /** What a pointer led to; kind is -1 for a struct. */
    private static final class Thing {
        int kind = -1;
        int segment;
        long begin;
        long n;
        long m;
        long d;
        long p;
        int depth;
    }

    private final List<List<Long>> segments = new ArrayList<>();
    private final List<Thing> handles = new ArrayList<>();
    private int budget = 63;
    private long left = 0;
    private List<Long> form = null;
    private List<Long> kept = null;
    private List<Long> made;
    private long leftForForm;

    Model() {
        for (int s = 0; s < 4; s++) {
            segments.add(new ArrayList<>());
        }
    }

    private static long bits(long word, int from, int to) {
        long value = 0;
        for (int bit = to; bit >= from; bit--) {
            value = 2 * value + ((word >>> bit) & 1);
        }
        return value;
    }

    private static long withSign(long word, int from, int to) {
        long value = bits(word, from, to);
        long half = 1L << (to - from);
        return value >= half ? value - 2 * half : value;
    }

    private boolean there(long segment, long i) {
        return segment >= 0 && segment <= 3 && i >= 0 && i < segments.get((int) segment).size();
    }

    private long at(long segment, long i) {
        return segments.get((int) segment).get((int) i);
    }

    int add(int segment, long word) {
        if (segment < 0 || segment > 3 || segments.get(segment).size() == 64) {
            return -1;
        }
        handles.clear();
        segments.get(segment).add(word);
        return segments.get(segment).size() - 1;
    }

    boolean change(int segment, int i, long word) {
        if (!there(segment, i)) {
            return false;
        }
        handles.clear();
        segments.get(segment).set(i, word);
        return true;
    }

    boolean cut(int segment, int n) {
        if (segment < 0 || segment > 3 || n < 0 || n > segments.get(segment).size()) {
            return false;
        }
        handles.clear();
        segments.set(segment, new ArrayList<>(segments.get(segment).subList(0, n)));
        return true;
    }

    int words(int segment) {
        return segment < 0 || segment > 3 ? -1 : segments.get(segment).size();
    }

    long word(int segment, int i) {
        return there(segment, i) ? at(segment, i) : 0;
    }

    boolean budget(int words) {
        if (words < 0 || words > 63) {
            return false;
        }
        budget = words;
        return true;
    }

    private static boolean structOrList(long word) {
        return word != 0 && bits(word, 0, 1) <= 1;
    }

    /** All of finding before the depth. */
    private Thing find(long segment, long i) {
        long word = at(segment, i);
        long teller = word;
        long place = segment;
        long begin = i + 1 + withSign(word, 2, 31);
        if (bits(word, 0, 1) == 2) {
            long padSegment = bits(word, 32, 63);
            long pad = bits(word, 3, 31);
            boolean two = bits(word, 2, 2) == 1;
            if (!there(padSegment, pad) || (two && !there(padSegment, pad + 1))) {
                throw new IndexOutOfBoundsException();
            }
            if (two) {
                long first = at(padSegment, pad);
                teller = at(padSegment, pad + 1);
                if (bits(first, 0, 2) != 2) {
                    throw new IllegalArgumentException();
                }
                place = bits(first, 32, 63);
                begin = bits(first, 3, 31);
            } else {
                teller = at(padSegment, pad);
                place = padSegment;
                begin = pad + 1 + withSign(teller, 2, 31);
            }
        }
        if (!structOrList(teller)) {
            throw new IllegalArgumentException();
        }
        return thingAt(teller, place, begin);
    }

    private Thing thingAt(long teller, long segment, long begin) {
        Thing thing = new Thing();
        thing.begin = begin;
        if (bits(teller, 0, 1) == 0) {
            thing.d = bits(teller, 32, 47);
            thing.p = bits(teller, 48, 63);
        } else {
            thing.kind = (int) bits(teller, 32, 34);
            thing.n = bits(teller, 35, 63);
            thing.m = thing.n;
        }
        long size = segment > 3 ? -1 : segments.get((int) segment).size();
        long end = begin + wordsOf(thing) + (thing.kind == 7 ? 1 : 0);
        if (begin < 0 || begin > size || end > size) {
            throw new IndexOutOfBoundsException();
        }
        thing.segment = (int) segment;
        if (thing.kind == 7) {
            long tag = at(segment, begin);
            thing.begin++;
            thing.m = bits(tag, 2, 31);
            thing.d = bits(tag, 32, 47);
            thing.p = bits(tag, 48, 63);
            if (bits(tag, 0, 1) != 0 || thing.m * (thing.d + thing.p) > thing.n) {
                throw new IllegalArgumentException();
            }
        }
        return thing;
    }

    private static long width(int kind) {
        return kind < 2 ? kind : kind == 2 ? 8 : kind == 3 ? 16 : kind == 4 ? 32 : 64;
    }

    /** Without the tag. */
    private static long wordsOf(Thing thing) {
        if (thing.kind == -1) {
            return thing.d + thing.p;
        }
        if (thing.kind >= 6) {
            return thing.n;
        }
        long bits = thing.n * width(thing.kind);
        return bits / 64 + (bits % 64 == 0 ? 0 : 1);
    }

    private static long costOf(Thing thing) {
        if (thing.kind == 7) {
            return 1 + (thing.n > thing.m ? thing.n : thing.m);
        }
        long cost = thing.kind == 0 ? thing.n : wordsOf(thing);
        return cost == 0 ? 1 : cost;
    }

    private static long pay(Thing thing, int depth, long from) {
        if (depth > 8 || costOf(thing) > from) {
            throw new IllegalStateException();
        }
        thing.depth = depth;
        return from - costOf(thing);
    }

    private Thing root() {
        if (segments.get(0).isEmpty()) {
            throw new IndexOutOfBoundsException();
        }
        if (at(0, 0) == 0) {
            throw new NoSuchElementException();
        }
        Thing root = find(0, 0);
        if (root.kind != -1) {
            throw new IllegalArgumentException();
        }
        return root;
    }

    int open() {
        Thing root = root();
        left = pay(root, 1, budget);
        handles.clear();
        handles.add(root);
        return (int) wordsOf(root);
    }

    int left() {
        return handles.isEmpty() ? 0 : (int) left;
    }

    private Thing handle(int handle) {
        if (handle < 0 || handle >= handles.size()) {
            throw new NoSuchElementException();
        }
        return handles.get(handle);
    }

    int go(int handle, int k) {
        Thing from = handle(handle);
        if (from.kind != -1 && from.kind != 6) {
            throw new UnsupportedOperationException();
        }
        if (k < 0 || (from.kind == 6 && k >= from.n)) {
            throw new IndexOutOfBoundsException();
        }
        if (from.kind == -1 && k >= from.p) {
            return -1;
        }
        long i = from.begin + (from.kind == -1 ? from.d : 0) + k;
        if (at(from.segment, i) == 0) {
            return -1;
        }
        if (handles.size() == 16) {
            throw new IllegalStateException();
        }
        Thing thing = find(from.segment, i);
        left = pay(thing, from.depth + 1, left);
        handles.add(thing);
        return handles.size() - 1;
    }

    int element(int handle, int k) {
        Thing list = handle(handle);
        if (list.kind != 7) {
            throw new UnsupportedOperationException();
        }
        if (k < 0 || k >= list.m) {
            throw new IndexOutOfBoundsException();
        }
        if (handles.size() == 16) {
            throw new IllegalStateException();
        }
        Thing thing = new Thing();
        thing.segment = list.segment;
        thing.begin = list.begin + k * (list.d + list.p);
        thing.d = list.d;
        thing.p = list.p;
        thing.depth = list.depth;
        handles.add(thing);
        return handles.size() - 1;
    }

    int about(int handle, int part) {
        Thing thing = handle(handle);
        if (part < 0 || part > 6) {
            throw new IndexOutOfBoundsException();
        }
        long[] parts = {thing.kind + 1, thing.kind == -1 ? thing.d : thing.m, thing.p,
            thing.kind == 7 ? thing.d : 0, thing.segment, thing.begin, thing.depth};
        return (int) parts[part];
    }

    long data(int handle, int k) {
        Thing thing = handle(handle);
        if (thing.kind >= 6) {
            throw new UnsupportedOperationException();
        }
        if (k < 0 || (thing.kind >= 0 && k >= thing.n)) {
            throw new IndexOutOfBoundsException();
        }
        if (thing.kind == -1) {
            return k < thing.d ? at(thing.segment, thing.begin + k) : 0;
        }
        return elementBits(thing, k);
    }

    private long elementBits(Thing list, long k) {
        long value = 0;
        long width = width(list.kind);
        for (long bit = 0; bit < width; bit++) {
            long number = k * width + bit;
            long word = at(list.segment, list.begin + number / 64);
            value += bits(word, (int) (number % 64), (int) (number % 64)) << bit;
        }
        return value;
    }

    int form() {
        made = new ArrayList<>();
        made.add(0L);
        leftForForm = budget;
        root();
        writeFor(0, 0, 0, 1);
        form = made;
        return form.size();
    }

    private void writeFor(int word, int segment, long i, int depth) {
        if (at(segment, i) == 0) {
            made.set(word, 0L);
            return;
        }
        Thing thing = find(segment, i);
        leftForForm = pay(thing, depth, leftForForm);
        int first = made.size();
        List<long[]> pointers = new ArrayList<>();
        if (thing.kind == -1) {
            long d = used(segmentOf(thing), thing.begin, thing.d);
            long p = used(segmentOf(thing), thing.begin + thing.d, thing.p);
            putStruct(thing, thing.begin, d, p, pointers);
            int b = d + p == 0 ? -1 : first - word - 1;
            made.set(word, pointerWord(0, b) + (d << 32) + (p << 48));
        } else if (thing.kind == 7) {
            long n = putStructs(thing, pointers);
            made.set(word, pointerWord(1, first - word - 1) + (7L << 32) + (n << 35));
        } else {
            if (thing.kind == 6) {
                putStruct(thing, thing.begin, 0, thing.n, pointers);
            } else {
                putFlat(thing);
            }
            made.set(word, pointerWord(1, first - word - 1) + ((long) thing.kind << 32)
                    + (thing.n << 35));
        }
        for (long[] pointer : pointers) {
            writeFor((int) pointer[0], thing.segment, pointer[1], depth + 1);
        }
    }

    private List<Long> segmentOf(Thing thing) {
        return segments.get(thing.segment);
    }

    private static long pointerWord(long sort, int b) {
        long low = b < 0 ? b + (1L << 30) : b;
        return sort + 4 * low;
    }

    private static long used(List<Long> row, long from, long count) {
        long used = 0;
        for (long k = 0; k < count; k++) {
            if (row.get((int) (from + k)) != 0) {
                used = k + 1;
            }
        }
        return used;
    }

    /** Puts d data words and p words for pointers, and notes where these came from. */
    private void putStruct(Thing thing, long begin, long d, long p, List<long[]> pointers) {
        for (long k = 0; k < d; k++) {
            made.add(at(thing.segment, begin + k));
        }
        for (long k = 0; k < p; k++) {
            pointers.add(new long[] {made.size(), begin + (thing.kind == 6 ? 0 : thing.d) + k});
            made.add(0L);
        }
    }

    private long putStructs(Thing list, List<long[]> pointers) {
        long d = 0;
        long p = 0;
        long step = list.d + list.p;
        for (long e = 0; e < list.m; e++) {
            long begin = list.begin + e * step;
            d = Math.max(d, used(segmentOf(list), begin, list.d));
            p = Math.max(p, used(segmentOf(list), begin + list.d, list.p));
        }
        made.add(4 * list.m + (d << 32) + (p << 48));
        for (long e = 0; e < list.m; e++) {
            putStruct(list, list.begin + e * step, d, p, pointers);
        }
        return list.m * (d + p);
    }

    private void putFlat(Thing list) {
        long bits = list.n * width(list.kind);
        for (long w = 0; w < wordsOf(list); w++) {
            long from = at(list.segment, list.begin + w);
            long word = 0;
            for (int bit = 0; bit < 64; bit++) {
                if (w * 64 + bit < bits) {
                    word |= bits(from, bit, bit) << bit;
                }
            }
            made.add(word);
        }
    }

    long formed(int i) {
        return form == null || i < 0 || i >= form.size() ? 0 : form.get(i);
    }

    boolean adopt() {
        if (form == null) {
            return false;
        }
        handles.clear();
        for (int s = 0; s < 4; s++) {
            segments.set(s, new ArrayList<>());
        }
        segments.get(0).addAll(form);
        return true;
    }

    boolean keep() {
        if (form == null) {
            return false;
        }
        kept = form;
        return true;
    }

    boolean same() {
        return form != null && kept != null && form.equals(kept);
    }
}
