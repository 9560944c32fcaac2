/**
 * Deltas of texts: a text as copies from another one and what is new; made in one way, read in every way.
 * The words INPUT, BASE, OUTPUT, LONGEST, DELTA, COPY, NEW and DAMAGED are those of the document.
 */
public final class DeltaPress {
    private static final int MOST_BYTES = 65536;
    private static final int FED_BYTES = 20;
    private static final int LEAST_COPY = 8;
    private static final int MOST_COPY = 65535;
    private static final int MOST_NEW = 127;
    /**
     * Two lengths of 3 BYTES, and all BYTES NEW. No COPY makes it longer: it has at most 5 BYTES, parts one row of NEW
     * ones into two, which is one BYTE more, and stands for 8 or more.
     */
    private static final int MOST_DELTA = 3 + 3 + MOST_BYTES + (MOST_BYTES + MOST_NEW - 1) / MOST_NEW;

    // Every row is made here, with the object, and as long as it may ever be: no call makes one.
    private Text input = new Text(MOST_BYTES);
    private Text base = new Text(MOST_BYTES);
    private Text output = new Text(MOST_DELTA);
    /** A reading is made here and becomes OUTPUT only when it is whole: what is refused changes nothing. */
    private Text spare = new Text(MOST_DELTA);
    private final SuffixTree tree = new SuffixTree();
    /** The tree is grown only when a LONGEST is asked for, and kept until BASE is another one. */
    private boolean treeIsOfBase = false;
    private final DeltaReader reader = new DeltaReader();
    private int copiesMade = 0;
    private int newBytesMade = 0;
    private int damagedReadings = 0;

    public DeltaPress() {
    }

    public int feed(int a, int b, int c, int d, int e) throws IllegalStateException {
        if (input.size() > MOST_BYTES - FED_BYTES) {
            throw new IllegalStateException("INPUT would be too long");
        }
        input.addFour(a);
        input.addFour(b);
        input.addFour(c);
        input.addFour(d);
        input.addFour(e);
        return input.size();
    }

    public int end(int n) throws IllegalArgumentException {
        if (n < 0 || n > input.size()) {
            throw new IllegalArgumentException("INPUT has not as many BYTES");
        }
        input.cut(input.size() - n);
        return input.size();
    }

    public void change(int i, int x) throws IllegalArgumentException {
        if (!input.has(i)) {
            throw new IllegalArgumentException("INPUT has no such place");
        }
        if (x < 0 || x > 255) {
            throw new IllegalArgumentException("no BYTE");
        }
        input.flip(i, x);
    }

    public int base() {
        Text rowToUseAgain = base;
        base = input;
        input = rowToUseAgain;
        input.cut(0);
        treeIsOfBase = false;
        return base.size();
    }

    public int make() {
        output.cut(0);
        output.addNumber(base.size());
        output.addNumber(input.size());
        copiesMade = 0;
        newBytesMade = 0;
        int firstNew = 0;
        int place = 0;
        while (place < input.size()) {
            findLongest(place);
            int length = tree.foundLength();
            if (length >= LEAST_COPY) {
                writeNew(firstNew, place);
                writeCopy(tree.foundPlace(), length);
                place += length;
                firstNew = place;
            } else {
                place++;
            }
        }
        writeNew(firstNew, input.size());
        return output.size();
    }

    public int use() throws ArithmeticException {
        if (!reader.isRead(input, base, spare)) {
            damagedReadings++;
            throw new ArithmeticException("INPUT is DAMAGED");
        }
        Text rowToUseAgain = output;
        output = spare;
        spare = rowToUseAgain;
        return output.size();
    }

    public int turn() throws IllegalStateException {
        if (output.size() > MOST_BYTES) {
            throw new IllegalStateException("INPUT would be too long");
        }
        input.cut(0);
        input.addPart(output, 0, output.size());
        return input.size();
    }

    public int longest(int i, int what) throws IllegalArgumentException {
        if (!input.has(i)) {
            throw new IllegalArgumentException("INPUT has no such place");
        }
        if (what != 0 && what != 1) {
            throw new IllegalArgumentException("neither the length nor the place");
        }
        findLongest(i);
        boolean isCopy = tree.foundLength() >= LEAST_COPY;
        if (what == 0) {
            return isCopy ? tree.foundLength() : 0;
        }
        return isCopy ? tree.foundPlace() : -1;
    }

    public int letter(int i) throws IndexOutOfBoundsException {
        if (!output.has(i)) {
            throw new IndexOutOfBoundsException("OUTPUT has no such place");
        }
        return output.at(i);
    }

    public int count(int what) {
        switch (what) {
            case 0:
                return input.size();
            case 1:
                return base.size();
            case 2:
                return output.size();
            case 3:
                return copiesMade;
            case 4:
                return newBytesMade;
            case 5:
                return damagedReadings;
            default:
                return -1;
        }
    }

    private void findLongest(int place) {
        if (!treeIsOfBase) {
            tree.grow(base);
            treeIsOfBase = true;
        }
        tree.find(input, place, MOST_COPY);
    }

    private void writeNew(int from, int to) {
        for (int place = from; place < to; place += MOST_NEW) {
            int many = Math.min(MOST_NEW, to - place);
            output.add(many);
            output.addPart(input, place, many);
        }
        newBytesMade += to - from;
    }

    private void writeCopy(int place, int length) {
        int bits = bitsOfBytes(place, 4) | bitsOfBytes(length, 2) << 4;
        output.add(128 | bits);
        output.addBytesNotZero(place, 4);
        output.addBytesNotZero(length, 2);
        copiesMade++;
    }

    private static int bitsOfBytes(int number, int bytes) {
        int bits = 0;
        for (int k = 0; k < bytes; k++) {
            if ((number >>> 8 * k & 255) != 0) {
                bits |= 1 << k;
            }
        }
        return bits;
    }

    /** A row of BYTES whose room is made with it and never grows: whoever adds BYTES knows that they find room. */
    private static final class Text {
        private final byte[] bytes;
        private int length = 0;

        Text(int room) {
            bytes = new byte[room];
        }

        int size() {
            return length;
        }

        boolean has(int i) {
            return i >= 0 && i < length;
        }

        int at(int i) {
            return bytes[i] & 255;
        }

        /** For the tree alone, whose loops are the dearest: a look at a row is less than a call. */
        byte[] row() {
            return bytes;
        }

        void cut(int newLength) {
            length = newLength;
        }

        void flip(int i, int x) {
            bytes[i] ^= (byte) x;
        }

        void add(int letter) {
            bytes[length] = (byte) letter;
            length++;
        }

        void addFour(int number) {
            add(number >>> 24);
            add(number >>> 16);
            add(number >>> 8);
            add(number);
        }

        void addNumber(int number) {
            int rest = number;
            for (int k = 0; k < 4 && rest > 127; k++) {
                add(rest & 127 | 128);
                rest >>>= 7;
            }
            add(rest);
        }

        void addBytesNotZero(int number, int many) {
            for (int k = 0; k < many; k++) {
                int letter = number >>> 8 * k & 255;
                if (letter != 0) {
                    add(letter);
                }
            }
        }

        void addPart(Text from, int place, int many) {
            System.arraycopy(from.bytes, place, bytes, length, many);
            length += many;
        }
    }

    /**
     * Ukkonen's suffix tree of BASE: whatever stands in BASE is a way down from the root, so a LONGEST costs
     * as many steps as it is long, however often BASE repeats itself.
     *
     * A node stands for the label on the edge from its parent: BASE from start to end. When an edge is split, its
     * upper part keeps its start, and a later leaf never moves it: so a label always lies where its way down stands
     * first in BASE.
     */
    private static final class SuffixTree {
        private static final int ROOT = 0;
        /** The root is nobody's child, so its number is free to say that there is none. */
        private static final int NO_CHILD = 0;
        /** At most as many leaves as letters, and fewer inner nodes than leaves. */
        private static final int MOST_NODES = 2 * MOST_BYTES;
        /** 2 to the 32nd through the golden ratio, made odd: it sends neighbours far apart. */
        private static final int SPREAD = 0x9E3779B1;

        private byte[] text = new byte[0];
        private int length = 0;

        private final int[] start = new int[MOST_NODES];
        private final int[] end = new int[MOST_NODES];
        private final int[] parent = new int[MOST_NODES];
        private final int[] link = new int[MOST_NODES];
        private int nodes = 1;

        /** The children of all nodes, hashed by parent and first letter. */
        private final int[] slots = new int[2 * MOST_NODES];
        /** A power of two, so many that they are at most half full: a short BASE needn't empty all of them. */
        private int slotsUsed = 0;
        private int slotShift = 0;

        /** Where the longest suffix that is no leaf yet ends: so many letters below this node. */
        private int activeNode = ROOT;
        private int activeLength = 0;
        /** How many suffixes are no leaves yet. */
        private int waiting = 0;

        private int foundLength = 0;
        private int foundPlace = -1;

        int foundLength() {
            return foundLength;
        }

        int foundPlace() {
            return foundPlace;
        }

        void grow(Text whole) {
            text = whole.row();
            length = whole.size();
            emptySlots();
            nodes = 1;
            activeNode = ROOT;
            activeLength = 0;
            waiting = 0;
            for (int place = 0; place < length; place++) {
                addLetter(place);
            }
        }

        private void emptySlots() {
            slotsUsed = 8 * Integer.highestOneBit(Math.max(length, 2) - 1);
            slotShift = 32 - Integer.bitCount(slotsUsed - 1);
            for (int slot = 0; slot < slotsUsed; slot++) {
                slots[slot] = NO_CHILD;
            }
        }

        private void addLetter(int place) {
            int withoutLink = ROOT;
            for (waiting++; waiting > 0; waiting--) {
                int slot = goDown(place);
                int child = slots[slot];
                boolean stands = child != NO_CHILD && text[start[child] + activeLength] == text[place];
                int branch = stands || child == NO_CHILD ? activeNode : split(slot, child);
                if (withoutLink != ROOT) {
                    link[withoutLink] = branch;
                }
                if (stands) {
                    // All shorter suffixes stand in the tree as well: they wait with this one.
                    activeLength++;
                    return;
                }
                withoutLink = branch == activeNode ? ROOT : branch;
                addLeaf(branch, place);
                goToNextSuffix();
            }
        }

        /** Goes below all nodes that the active letters reach, and answers the slot of the edge where they end. */
        private int goDown(int place) {
            int slot = slotOf(activeNode, text[place - activeLength]);
            for (int step = 0; step < length && activeLength > 0; step++) {
                int child = slots[slot];
                int label = end[child] - start[child];
                if (activeLength < label) {
                    break;
                }
                activeNode = child;
                activeLength -= label;
                slot = slotOf(activeNode, text[place - activeLength]);
            }
            return slot;
        }

        private int split(int slot, int child) {
            int middle = start[child] + activeLength;
            int inner = addNode(activeNode, start[child], middle);
            slots[slot] = inner;
            start[child] = middle;
            parent[child] = inner;
            slots[slotOf(inner, text[middle])] = child;
            return inner;
        }

        private void addLeaf(int above, int place) {
            int slot = slotOf(above, text[place]);
            slots[slot] = addNode(above, place, length);
        }

        private int addNode(int above, int from, int to) {
            int node = nodes;
            nodes++;
            parent[node] = above;
            start[node] = from;
            end[node] = to;
            link[node] = ROOT;
            return node;
        }

        private void goToNextSuffix() {
            if (activeNode != ROOT) {
                activeNode = link[activeNode];
            } else if (activeLength > 0) {
                activeLength--;
            }
        }

        /** The slot of the child, or the empty one where it would be. */
        private int slotOf(int above, byte letter) {
            int slot = ((above << 8 | letter & 255) * SPREAD) >>> slotShift;
            for (int step = 0; step < slotsUsed; step++) {
                int child = slots[slot];
                if (child == NO_CHILD || parent[child] == above && text[start[child]] == letter) {
                    break;
                }
                slot = slot + 1 & slotsUsed - 1;
            }
            return slot;
        }

        void find(Text wanted, int from, int most) {
            byte[] row = wanted.row();
            int limit = Math.min(wanted.size() - from, most);
            int node = ROOT;
            foundLength = 0;
            foundPlace = -1;
            while (foundLength < limit) {
                int child = slots[slotOf(node, row[from + foundLength])];
                if (child == NO_CHILD) {
                    break;
                }
                int label = end[child] - start[child];
                foundPlace = start[child] - foundLength;
                // The first letter is the slot's own, so every round finds one letter more at least.
                int same = 1 + sameLetters(start[child] + 1, row, from + foundLength + 1,
                        Math.min(label, limit - foundLength) - 1);
                foundLength += same;
                if (same < label) {
                    break;
                }
                node = child;
            }
        }

        private int sameLetters(int place, byte[] row, int from, int most) {
            int same = 0;
            while (same < most && text[place + same] == row[from + same]) {
                same++;
            }
            return same;
        }
    }

    /** Reads a DELTA once, front to back; it stops at the first thing that no DELTA has. */
    private static final class DeltaReader {
        private static final int NUMBER_BYTES = 4;
        private static final int PLACE_BYTES = 4;
        private static final int LENGTH_BYTES = 3;
        private static final int NO_NUMBER = -1;

        private int place = 0;

        boolean isRead(Text delta, Text source, Text made) {
            made.cut(0);
            place = 0;
            if (readNumber(delta) != source.size()) {
                return false;
            }
            int due = readNumber(delta);
            if (due == NO_NUMBER || due > MOST_BYTES) {
                return false;
            }
            while (place < delta.size()) {
                int head = delta.at(place);
                place++;
                boolean isFine = head >= 128
                        ? isCopyRead(delta, head, source, made, due)
                        : isNewRead(delta, head, made, due);
                if (!isFine) {
                    return false;
                }
            }
            return made.size() == due;
        }

        private int readNumber(Text delta) {
            int number = 0;
            for (int k = 0; k < NUMBER_BYTES && place < delta.size(); k++) {
                int letter = delta.at(place);
                place++;
                number |= (letter & 127) << 7 * k;
                if (letter < 128) {
                    return number;
                }
            }
            return NO_NUMBER;
        }

        private boolean isCopyRead(Text delta, int head, Text source, Text made, int due) {
            int from = readChosenBytes(delta, head, PLACE_BYTES);
            int many = readChosenBytes(delta, head >>> PLACE_BYTES, LENGTH_BYTES);
            if (many == 0) {
                many = MOST_BYTES;
            }
            // A place of 2 to the 31st or more comes as a negative number and is as far outside.
            if (from < 0 || many < 0 || from > source.size() - many) {
                return false;
            }
            // Looked at before it is made: a few BYTES of COPIES could make more than any room holds.
            if (many > due - made.size()) {
                return false;
            }
            made.addPart(source, from, many);
            return true;
        }

        private int readChosenBytes(Text delta, int bits, int bytes) {
            int number = 0;
            for (int k = 0; k < bytes; k++) {
                if ((bits >>> k & 1) == 1) {
                    if (place >= delta.size()) {
                        return NO_NUMBER;
                    }
                    number |= delta.at(place) << 8 * k;
                    place++;
                }
            }
            return number;
        }

        private boolean isNewRead(Text delta, int many, Text made, int due) {
            if (many == 0 || many > delta.size() - place || many > due - made.size()) {
                return false;
            }
            made.addPart(delta, place, many);
            place += many;
            return true;
        }
    }
}
