import java.util.NoSuchElementException;

/**
 * Messages that are rows of words with pointers among them. Structs and lists are come to pointer
 * by pointer, within a budget and a depth; a message is written anew in its one canonical form.
 */
public final class PointedWords {
    public static final int NONE = -1;

    private static final int SEGMENTS = 4;
    private static final int WORD_BITS = 64;
    private static final int MOST_WORDS = 64;
    private static final int MOST_BUDGET = 63;
    private static final int MOST_HANDLES = 16;
    private static final int MOST_DEPTH = 8;
    private static final int ROOT_DEPTH = 1;

    private final Message message;
    private final Found[] handles;
    private final Found rootFound;
    private final Writer writer;
    private final Row latestForm;
    private final Row keptForm;
    private int handleCount;
    private int wholeBudget;
    private int leftForHandles;

    public PointedWords() {
        message = new Message();
        handles = new Found[MOST_HANDLES];
        for (int h = 0; h < MOST_HANDLES; h++) {
            handles[h] = new Found();
        }
        rootFound = new Found();
        writer = new Writer();
        latestForm = new Row();
        keptForm = new Row();
        handleCount = 0;
        wholeBudget = MOST_BUDGET;
        leftForHandles = 0;
    }

    public int add(int segment, long word) {
        if (!message.hasSegment(segment) || message.rows[segment].isFull()) {
            return NONE;
        }
        endHandles();
        return message.rows[segment].append(word);
    }

    public boolean change(int segment, int i, long word) {
        if (!message.hasWord(segment, i)) {
            return false;
        }
        endHandles();
        message.rows[segment].values[i] = word;
        return true;
    }

    public boolean cut(int segment, int n) {
        if (!message.hasSegment(segment) || n < 0 || n > message.rows[segment].size) {
            return false;
        }
        endHandles();
        message.rows[segment].size = n;
        return true;
    }

    public int words(int segment) {
        return message.hasSegment(segment) ? message.rows[segment].size : NONE;
    }

    public long word(int segment, int i) {
        return message.wordAt(segment, i);
    }

    public boolean budget(int words) {
        if (words < 0 || words > MOST_BUDGET) {
            return false;
        }
        wholeBudget = words;
        return true;
    }

    public int open() throws IndexOutOfBoundsException, NoSuchElementException,
            IllegalArgumentException, IllegalStateException {
        // The root is found apart from handle 0, which must stay as it is if this throws.
        Finder.followRoot(message, rootFound);
        leftForHandles = Finder.charge(rootFound, ROOT_DEPTH, wholeBudget);
        handles[0].becomeLike(rootFound);
        handleCount = 1;
        return rootFound.span;
    }

    public int left() {
        return handleCount == 0 ? 0 : leftForHandles;
    }

    public int go(int handle, int k) throws NoSuchElementException, UnsupportedOperationException,
            IndexOutOfBoundsException, IllegalStateException, IllegalArgumentException {
        Found from = handleAt(handle);
        if (from.shape != Found.STRUCT && from.shape != Found.POINTER_LIST) {
            throw new UnsupportedOperationException("a list without pointers of its own");
        }
        if (k < 0 || (from.shape == Found.POINTER_LIST && k >= from.elements)) {
            throw new IndexOutOfBoundsException("no such pointer");
        }
        if (k >= from.pointerCount()) {
            return NONE;
        }
        int i = from.firstPointer() + k;
        if (message.wordAt(from.segment, i) == 0) {
            return NONE;
        }
        Found target = freeHandle();
        Finder.follow(message, from.segment, i, target);
        leftForHandles = Finder.charge(target, from.depth + 1, leftForHandles);
        return takeFreeHandle();
    }

    public int element(int handle, int k) throws NoSuchElementException,
            UnsupportedOperationException, IndexOutOfBoundsException, IllegalStateException {
        Found list = handleAt(handle);
        if (list.shape != Found.STRUCT_LIST) {
            throw new UnsupportedOperationException("not a list of structs");
        }
        if (k < 0 || k >= list.elements) {
            throw new IndexOutOfBoundsException("no such element");
        }
        freeHandle().becomeElement(list, k);
        return takeFreeHandle();
    }

    public int about(int handle, int part) throws NoSuchElementException,
            IndexOutOfBoundsException {
        Found found = handleAt(handle);
        switch (part) {
            case 0:
                return found.shape;
            case 1:
                return found.shape == Found.STRUCT ? found.dataWords : found.elements;
            case 2:
                return found.pointers;
            case 3:
                return found.shape == Found.STRUCT ? 0 : found.dataWords;
            case 4:
                return found.segment;
            case 5:
                return found.start;
            case 6:
                return found.depth;
            default:
                throw new IndexOutOfBoundsException("no such part");
        }
    }

    public long data(int handle, int k) throws NoSuchElementException,
            UnsupportedOperationException, IndexOutOfBoundsException {
        Found found = handleAt(handle);
        if (found.shape == Found.POINTER_LIST || found.shape == Found.STRUCT_LIST) {
            throw new UnsupportedOperationException("a list of pointers or structs");
        }
        if (k < 0 || (found.shape != Found.STRUCT && k >= found.elements)) {
            throw new IndexOutOfBoundsException("no such data");
        }
        if (found.shape == Found.STRUCT) {
            return k < found.dataWords ? message.wordAt(found.segment, found.start + k) : 0;
        }
        return flatElement(found, k);
    }

    public int form() throws IndexOutOfBoundsException, NoSuchElementException,
            IllegalArgumentException, IllegalStateException {
        Finder.followRoot(message, rootFound);
        // The writer has a row of its own, so that the latest form stays if this throws.
        writer.begin(wholeBudget);
        writer.write(message, 0, 0, 0, ROOT_DEPTH);
        latestForm.becomeLike(writer.row);
        return latestForm.size;
    }

    public long formed(int i) {
        return latestForm.valueAt(i);
    }

    public boolean adopt() {
        if (latestForm.isEmpty()) {
            return false;
        }
        endHandles();
        message.becomeOnly(latestForm);
        return true;
    }

    public boolean keep() {
        if (latestForm.isEmpty()) {
            return false;
        }
        keptForm.becomeLike(latestForm);
        return true;
    }

    public boolean same() {
        return !latestForm.isEmpty() && latestForm.isLike(keptForm);
    }

    private void endHandles() {
        handleCount = 0;
    }

    private Found handleAt(int handle) {
        if (handle < 0 || handle >= handleCount) {
            throw new NoSuchElementException("no such handle");
        }
        return handles[handle];
    }

    /** The next handle's object; it counts as a handle only after takeFreeHandle(). */
    private Found freeHandle() {
        if (handleCount >= MOST_HANDLES) {
            throw new IllegalStateException("no handle is free");
        }
        return handles[handleCount];
    }

    private int takeFreeHandle() {
        handleCount++;
        return handleCount - 1;
    }

    private long flatElement(Found list, int k) {
        int bits = Found.elementBits(list.kind());
        if (bits == 0) {
            return 0;
        }
        int bit = k * bits;
        long word = message.wordAt(list.segment, list.start + bit / WORD_BITS);
        return (word >>> (bit % WORD_BITS)) & Bits.lowest(bits);
    }

    /** A row of at most 64 words. */
    private static final class Row {
        final long[] values;
        int size;

        Row() {
            values = new long[MOST_WORDS];
            size = 0;
        }

        boolean isEmpty() {
            return size == 0;
        }

        boolean isFull() {
            return size >= MOST_WORDS;
        }

        boolean has(int i) {
            return i >= 0 && i < size;
        }

        long valueAt(int i) {
            return has(i) ? values[i] : 0;
        }

        /** Only for a row that is not full. */
        int append(long value) {
            values[size] = value;
            size++;
            return size - 1;
        }

        void becomeLike(Row other) {
            System.arraycopy(other.values, 0, values, 0, other.size);
            size = other.size;
        }

        boolean isLike(Row other) {
            if (size != other.size) {
                return false;
            }
            for (int i = 0; i < size; i++) {
                if (values[i] != other.values[i]) {
                    return false;
                }
            }
            return true;
        }
    }

    /** The segments. */
    private static final class Message {
        final Row[] rows;

        Message() {
            rows = new Row[SEGMENTS];
            for (int s = 0; s < SEGMENTS; s++) {
                rows[s] = new Row();
            }
        }

        boolean hasSegment(int segment) {
            return segment >= 0 && segment < SEGMENTS;
        }

        boolean hasWord(int segment, int i) {
            return hasSegment(segment) && rows[segment].has(i);
        }

        long wordAt(int segment, int i) {
            return hasSegment(segment) ? rows[segment].valueAt(i) : 0;
        }

        void becomeOnly(Row row) {
            for (int s = 0; s < SEGMENTS; s++) {
                rows[s].size = 0;
            }
            rows[0].becomeLike(row);
        }
    }

    /** The parts of a pointer's word, read and put together. */
    private static final class Bits {
        static final int STRUCT = 0;
        static final int LIST = 1;
        static final int FAR = 2;

        static int sort(long word) {
            return (int) word & 3;
        }

        static boolean leadsToObject(long word) {
            return word != 0 && (sort(word) == STRUCT || sort(word) == LIST);
        }

        static int offset(long word) {
            return (int) word >> 2;
        }

        static int dataWords(long word) {
            return (int) (word >>> 32) & 0xFFFF;
        }

        static int pointers(long word) {
            return (int) (word >>> 48);
        }

        static int listKind(long word) {
            return (int) (word >>> 32) & 7;
        }

        static int listNumber(long word) {
            return (int) (word >>> 35);
        }

        static int tagElements(long word) {
            return (int) word >>> 2;
        }

        static boolean hasTwoWordPad(long word) {
            return (word & 4) != 0;
        }

        /** Numbers without sign that no int holds come out negative: no segments either way. */
        static int farSegment(long word) {
            return (int) (word >>> 32);
        }

        static int farWord(long word) {
            return (int) word >>> 3;
        }

        static long lowest(int count) {
            return count >= WORD_BITS ? -1L : (1L << count) - 1;
        }

        /** A tag is put together likewise, its number of elements in the place of the offset. */
        static long structPointer(int offset, int dataWords, int pointers) {
            return lowHalf(offset, STRUCT) | (long) dataWords << 32 | (long) pointers << 48;
        }

        static long listPointer(int offset, int kind, int number) {
            return lowHalf(offset, LIST) | (long) kind << 32 | (long) number << 35;
        }

        private static long lowHalf(int offset, int sort) {
            return (long) (offset << 2 | sort) & 0xFFFFFFFFL;
        }
    }

    /** An object of the message. */
    private static final class Found {
        static final int STRUCT = 0;
        static final int VOID_LIST = 1;
        static final int POINTER_LIST = 7;
        static final int STRUCT_LIST = 8;

        private static final int POINTER_KIND = 6;
        private static final int STRUCT_KIND = 7;
        private static final int[] ELEMENT_BITS = {0, 1, 8, 16, 32, 64};

        /** 0 for a struct, 1 more than its kind for a list. */
        int shape;
        int segment;
        /** Where it begins; behind the tag, if it has one. */
        int start;
        /** The number of its words without the tag, as its pointer tells it. */
        int span;
        /** The number of elements of a list; 0 for a struct. */
        int elements;
        /** Those of a struct, or of an element of a list of structs. */
        int dataWords;
        /** Those of a struct, or of an element of a list of structs. */
        int pointers;
        int depth;

        static int elementBits(int kind) {
            return kind >= 0 && kind < ELEMENT_BITS.length ? ELEMENT_BITS[kind] : 0;
        }

        int kind() {
            return shape - 1;
        }

        int tagWords() {
            return shape == STRUCT_LIST ? 1 : 0;
        }

        /** The number of pointers that go() can follow. */
        int pointerCount() {
            return shape == POINTER_LIST ? elements : pointers;
        }

        int firstPointer() {
            return start + dataWords;
        }

        int cost() {
            if (shape == STRUCT_LIST) {
                return Math.max(span, elements) + 1;
            }
            return Math.max(1, shape == VOID_LIST ? elements : span);
        }

        void beginAt(int inSegment, int word) {
            segment = inSegment;
            start = word;
        }

        void readPointer(long pointer) {
            elements = 0;
            dataWords = 0;
            pointers = 0;
            if (Bits.sort(pointer) == Bits.STRUCT) {
                shape = STRUCT;
                dataWords = Bits.dataWords(pointer);
                pointers = Bits.pointers(pointer);
                span = dataWords + pointers;
                return;
            }
            int kind = Bits.listKind(pointer);
            shape = kind + 1;
            elements = Bits.listNumber(pointer);
            span = wordsOfList(kind, elements);
        }

        void readTag(long tag) {
            elements = Bits.tagElements(tag);
            dataWords = Bits.dataWords(tag);
            pointers = Bits.pointers(tag);
        }

        private static int wordsOfList(int kind, int number) {
            if (kind == POINTER_KIND || kind == STRUCT_KIND) {
                return number;
            }
            long bits = (long) number * elementBits(kind);
            return (int) ((bits + WORD_BITS - 1) / WORD_BITS);
        }

        boolean elementsFit() {
            return (long) elements * (dataWords + pointers) <= span;
        }

        void becomeLike(Found other) {
            shape = other.shape;
            segment = other.segment;
            start = other.start;
            span = other.span;
            elements = other.elements;
            dataWords = other.dataWords;
            pointers = other.pointers;
            depth = other.depth;
        }

        void becomeElement(Found list, int k) {
            becomeLike(list);
            shape = STRUCT;
            elements = 0;
            span = dataWords + pointers;
            start = list.start + k * span;
        }
    }

    /** Finds what pointers lead to; each step throws before a later one looks at anything. */
    private static final class Finder {
        static void followRoot(Message message, Found found) {
            if (!message.hasWord(0, 0)) {
                throw new IndexOutOfBoundsException("no word for the root");
            }
            if (message.wordAt(0, 0) == 0) {
                throw new NoSuchElementException("the root is null");
            }
            follow(message, 0, 0, found);
            if (found.shape != Found.STRUCT) {
                throw new IllegalArgumentException("the root is a list");
            }
        }

        /** Finds all but depth and cost, for a pointer that is not null. */
        static void follow(Message message, int segment, int i, Found found) {
            long teller = locate(message, segment, i, found);
            if (!Bits.leadsToObject(teller)) {
                throw new IllegalArgumentException("neither a struct nor a list");
            }
            found.readPointer(teller);
            requireWithin(message, found);
            if (found.shape == Found.STRUCT_LIST) {
                passTag(message, found);
            }
        }

        /** Looks at depth and cost; answers what is left then. */
        static int charge(Found found, int depth, int left) {
            if (depth > MOST_DEPTH) {
                throw new IllegalStateException("too deep");
            }
            if (found.cost() > left) {
                throw new IllegalStateException("the budget is spent");
            }
            found.depth = depth;
            return left - found.cost();
        }

        /** Sets where the object begins; answers the pointer that tells what it is. */
        private static long locate(Message message, int segment, int i, Found found) {
            long pointer = message.wordAt(segment, i);
            if (Bits.sort(pointer) != Bits.FAR) {
                found.beginAt(segment, i + 1 + Bits.offset(pointer));
                return pointer;
            }
            return Bits.hasTwoWordPad(pointer) ? locateByTwoWords(message, pointer, found)
                    : locateByOneWord(message, pointer, found);
        }

        private static long locateByOneWord(Message message, long far, Found found) {
            int segment = Bits.farSegment(far);
            int pad = Bits.farWord(far);
            if (!message.hasWord(segment, pad)) {
                throw new IndexOutOfBoundsException("no such pad");
            }
            long pointer = message.wordAt(segment, pad);
            found.beginAt(segment, pad + 1 + Bits.offset(pointer));
            return pointer;
        }

        private static long locateByTwoWords(Message message, long far, Found found) {
            int segment = Bits.farSegment(far);
            int pad = Bits.farWord(far);
            if (!message.hasWord(segment, pad + 1)) {
                throw new IndexOutOfBoundsException("no such pad");
            }
            long place = message.wordAt(segment, pad);
            if (Bits.sort(place) != Bits.FAR || Bits.hasTwoWordPad(place)) {
                throw new IllegalArgumentException("a pad that tells no beginning");
            }
            found.beginAt(Bits.farSegment(place), Bits.farWord(place));
            return message.wordAt(segment, pad + 1);
        }

        private static void requireWithin(Message message, Found found) {
            if (!message.hasSegment(found.segment)) {
                throw new IndexOutOfBoundsException("no such segment");
            }
            int size = message.rows[found.segment].size;
            if (found.start < 0 || found.start > size
                    || found.tagWords() + found.span > size - found.start) {
                throw new IndexOutOfBoundsException("not within its segment");
            }
        }

        private static void passTag(Message message, Found found) {
            long tag = message.wordAt(found.segment, found.start);
            if (Bits.sort(tag) != Bits.STRUCT) {
                throw new IllegalArgumentException("no tag");
            }
            found.readTag(tag);
            if (!found.elementsFit()) {
                throw new IllegalArgumentException("elements beyond the list's words");
            }
            found.start++;
        }
    }

    /**
     * Writes the canonical form. No object puts more words than it costs, and the budget is 63 at
     * most: with the root's pointer the form has at most 64 words, so that its row never is full.
     */
    private static final class Writer {
        final Row row;
        /** One for each depth, and one for what is found too deep. */
        private final Found[] foundAtDepth;
        private int leftForForm;

        Writer() {
            row = new Row();
            foundAtDepth = new Found[MOST_DEPTH + 2];
            for (int d = 0; d < foundAtDepth.length; d++) {
                foundAtDepth[d] = new Found();
            }
            leftForForm = 0;
        }

        void begin(int budget) {
            leftForForm = budget;
            row.size = 1;
        }

        /** Writes for word at of the form what pointer i of a segment leads to. */
        void write(Message message, int segment, int i, int at, int depth) {
            if (message.wordAt(segment, i) == 0) {
                row.values[at] = 0;
                return;
            }
            Found found = foundAtDepth[depth];
            Finder.follow(message, segment, i, found);
            leftForForm = Finder.charge(found, depth, leftForForm);
            switch (found.shape) {
                case Found.STRUCT:
                    writeStruct(message, found, at, depth);
                    break;
                case Found.POINTER_LIST:
                    writePointerList(message, found, at, depth);
                    break;
                case Found.STRUCT_LIST:
                    writeStructList(message, found, at, depth);
                    break;
                default:
                    writeFlatList(message, found, at);
                    break;
            }
        }

        private void writeStruct(Message message, Found found, int at, int depth) {
            Row source = message.rows[found.segment];
            int dataWords = usedWords(source, found.start, found.dataWords);
            int pointers = usedWords(source, found.firstPointer(), found.pointers);
            int first = put(dataWords + pointers);
            // An offset of 0 would make the pointer of an empty struct a null one.
            int offset = dataWords + pointers == 0 ? -1 : first - at - 1;
            row.values[at] = Bits.structPointer(offset, dataWords, pointers);
            copyWords(source, found.start, first, dataWords);
            writePointers(message, found.segment, found.firstPointer(), first + dataWords,
                    pointers, depth + 1);
        }

        private void writeFlatList(Message message, Found found, int at) {
            int first = put(found.span);
            row.values[at] = Bits.listPointer(first - at - 1, found.kind(), found.elements);
            copyWords(message.rows[found.segment], found.start, first, found.span);
            int bitsInLast = found.elements * Found.elementBits(found.kind()) % WORD_BITS;
            if (bitsInLast != 0) {
                row.values[first + found.span - 1] &= Bits.lowest(bitsInLast);
            }
        }

        private void writePointerList(Message message, Found found, int at, int depth) {
            int first = put(found.elements);
            row.values[at] = Bits.listPointer(first - at - 1, found.kind(), found.elements);
            writePointers(message, found.segment, found.start, first, found.elements, depth + 1);
        }

        private void writeStructList(Message message, Found found, int at, int depth) {
            Row source = message.rows[found.segment];
            int step = found.dataWords + found.pointers;
            int dataWords = 0;
            int pointers = 0;
            for (int e = 0; e < found.elements; e++) {
                int start = found.start + e * step;
                dataWords = Math.max(dataWords, usedWords(source, start, found.dataWords));
                pointers = Math.max(pointers,
                        usedWords(source, start + found.dataWords, found.pointers));
            }
            int newStep = dataWords + pointers;
            int number = found.elements * newStep;
            int tag = put(1 + number);
            row.values[at] = Bits.listPointer(tag - at - 1, found.kind(), number);
            row.values[tag] = Bits.structPointer(found.elements, dataWords, pointers);
            for (int e = 0; e < found.elements; e++) {
                copyWords(source, found.start + e * step, tag + 1 + e * newStep, dataWords);
            }
            for (int e = 0; e < found.elements; e++) {
                writePointers(message, found.segment, found.start + e * step + found.dataWords,
                        tag + 1 + e * newStep + dataWords, pointers, depth + 1);
            }
        }

        private void writePointers(Message message, int segment, int i, int at, int count,
                int depth) {
            for (int k = 0; k < count; k++) {
                write(message, segment, i + k, at + k, depth);
            }
        }

        /** Makes room behind the words that the form has; answers where it begins. */
        private int put(int count) {
            row.size += count;
            return row.size - count;
        }

        private void copyWords(Row source, int from, int to, int count) {
            System.arraycopy(source.values, from, row.values, to, count);
        }

        /** The number of words without those at the end that are 0. */
        private static int usedWords(Row source, int from, int count) {
            int used = count;
            while (used > 0 && source.values[from + used - 1] == 0) {
                used--;
            }
            return used;
        }
    }
}
