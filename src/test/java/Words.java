/** Words put together from their parts, and objects filled with them. */
final class Words {
    private Words() {
    }

    static long struct(long b, long d, long p) {
        return (b & 0x3FFFFFFFL) << 2 | d << 32 | p << 48;
    }

    static long list(long b, long kind, long n) {
        return 1 | (b & 0x3FFFFFFFL) << 2 | kind << 32 | n << 35;
    }

    static long tag(long m, long d, long p) {
        return struct(m, d, p);
    }

    static long far(long segment, long word) {
        return 2 | word << 3 | segment << 32;
    }

    static long farOfTwo(long segment, long word) {
        return far(segment, word) | 4;
    }

    /** A new object whose segment 0 has these words. */
    static PointedWords message(long... words) {
        return fill(new PointedWords(), 0, words);
    }

    static PointedWords fill(PointedWords object, int segment, long... words) {
        for (long word : words) {
            object.add(segment, word);
        }
        return object;
    }

    /** A message whose root has one pointer, this one, as word 1, and further words behind it. */
    static PointedWords pointing(long pointer, long... behind) {
        return fill(message(struct(0, 0, 1), pointer), 0, behind);
    }

    static long[] repeated(long word, int count) {
        long[] words = new long[count];
        for (int i = 0; i < count; i++) {
            words[i] = word;
        }
        return words;
    }

    /** The parts of what a handle stands for, in their order. */
    static String parts(PointedWords object, int handle) {
        StringBuilder text = new StringBuilder();
        for (int part = 0; part < 7; part++) {
            int asked = part;
            text.append(part == 0 ? "" : " ");
            text.append(Checks.answer(() -> object.about(handle, asked)));
        }
        return text.toString();
    }

    static String formText(PointedWords object, int size) {
        StringBuilder text = new StringBuilder();
        for (int i = 0; i < size; i++) {
            text.append(i == 0 ? "" : " ").append(object.formed(i));
        }
        return text.toString();
    }

    static String text(long... words) {
        StringBuilder text = new StringBuilder();
        for (int i = 0; i < words.length; i++) {
            text.append(i == 0 ? "" : " ").append(words[i]);
        }
        return text.toString();
    }
}
