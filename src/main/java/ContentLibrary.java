import java.util.Arrays;

/**
 * Small pictures kept by a digest of all that they are, each once; prints of them by which near ones are
 * found; blocks of bytes in which all stands with sums, committed in two steps, so that a cut at any byte
 * leaves what was committed; opened again, checked, and swept.
 *
 * Every row is made in a constructor and used again, so that a call makes no objects but what it throws.
 */
public final class ContentLibrary {
    public static final int NONE = -1, CUT = -2;

    private static final int MOST_BLOCKS = 40;
    private static final int MOST_MADE = 8;
    private static final int MOST_NUMBERS = 16;
    private static final int MOST_RECORD_BLOCKS = 2;
    private static final int PRINT_BITS = 64;
    private static final int DIGEST_WORDS = 8;

    private final Blocks blocks;
    private final boolean[] used;
    private final Picture[] made;
    private final Kept[] kept;
    private final Digester digester;
    private final int[] freshDigest;
    private final int[] foundNumbers;
    private final int[] foundBits;
    private int foundCount;

    public ContentLibrary(int blocks) {
        int count = Math.max(1, Math.min(blocks, MOST_BLOCKS));
        this.blocks = new Blocks(count);
        used = new boolean[count];
        made = new Picture[MOST_MADE];
        for (int i = 0; i < MOST_MADE; i++) {
            made[i] = new Picture();
        }
        kept = new Kept[MOST_NUMBERS];
        for (int i = 0; i < MOST_NUMBERS; i++) {
            kept[i] = new Kept();
        }
        digester = new Digester();
        freshDigest = new int[DIGEST_WORDS];
        foundNumbers = new int[MOST_NUMBERS];
        foundBits = new int[MOST_NUMBERS];
        foundCount = 0;
    }

    public int picture(int width, int height)
            throws IllegalStateException, IllegalArgumentException, UnsupportedOperationException {
        refuseWhenCut();
        if (!Picture.isSide(width) || !Picture.isSide(height)) {
            throw new IllegalArgumentException("a width and a height are 1 .. 8");
        }
        for (int i = 0; i < MOST_MADE; i++) {
            if (!made[i].there) {
                made[i].begin(width, height);
                return i;
            }
        }
        throw new UnsupportedOperationException("eight pictures are being made");
    }

    public int samples(int picture, int n, int v, int step)
            throws IllegalStateException, IndexOutOfBoundsException, IllegalArgumentException {
        refuseWhenCut();
        Picture target = pictureBeingMade(picture);
        if (n < 1) {
            throw new IllegalArgumentException("samples come by one or more");
        }
        return target.take(n, v, step);
    }

    public int keep(int picture) throws IllegalStateException, IndexOutOfBoundsException, IllegalArgumentException,
            UnsupportedOperationException {
        refuseWhenCut();
        Picture target = pictureBeingMade(picture);
        refuseUnlessWhole(target);
        digester.work(target.message, target.length(), freshDigest);
        int number = numberWith(freshDigest, MOST_NUMBERS);
        if (number == NONE) {
            number = freeNumber();
            if (number == NONE || !choosePlaces(kept[number], target.recordBlocks())) {
                throw new UnsupportedOperationException("there is no number or no room in the blocks");
            }
            if (!commit(number, target)) {
                return afterCut();
            }
        }
        target.there = false;
        return number;
    }

    public int digest(int number, int i) throws IllegalStateException, IndexOutOfBoundsException {
        refuseWhenCut();
        Kept one = keptAt(number);
        if (i < 0 || i >= DIGEST_WORDS) {
            throw new IndexOutOfBoundsException("a digest has the words 0 .. 7");
        }
        return one.digest[i];
    }

    public long print(int number) throws IllegalStateException, IndexOutOfBoundsException {
        refuseWhenCut();
        return keptAt(number).print;
    }

    public int sample(int number, int x, int y) throws IllegalStateException, IndexOutOfBoundsException {
        refuseWhenCut();
        Picture one = keptAt(number).picture;
        if (x < 0 || x >= one.width() || y < 0 || y >= one.height()) {
            throw new IndexOutOfBoundsException("no such sample");
        }
        return one.at(x, y);
    }

    public int near(int picture, int bound)
            throws IllegalStateException, IndexOutOfBoundsException, IllegalArgumentException {
        refuseWhenCut();
        Picture target = pictureBeingMade(picture);
        refuseUnlessWhole(target);
        if (bound < 0 || bound > PRINT_BITS) {
            throw new IllegalArgumentException("a bound is 0 .. 64");
        }
        long print = target.printBits();
        foundCount = 0;
        for (int number = 0; number < MOST_NUMBERS; number++) {
            if (kept[number].there) {
                int bits = Long.bitCount(print ^ kept[number].print);
                if (bits <= bound) {
                    enterFound(number, bits);
                }
            }
        }
        return foundCount;
    }

    public int found(int k, int what)
            throws IllegalStateException, IndexOutOfBoundsException, IllegalArgumentException {
        refuseWhenCut();
        if (k < 0 || k >= foundCount) {
            throw new IndexOutOfBoundsException("nothing was found at that place");
        }
        if (what != 0 && what != 1) {
            throw new IllegalArgumentException("of what was found, 0 and 1 are told");
        }
        return what == 0 ? foundNumbers[k] : foundBits[k];
    }

    public int drop(int number) throws IllegalStateException, IndexOutOfBoundsException {
        refuseWhenCut();
        Kept one = keptAt(number);
        // The mark goes first, so that a cut behind it never leaves a mark without its record.
        boolean going = blocks.wipe(one.places[one.recordBlocks]);
        for (int which = 0; which < one.recordBlocks && going; which++) {
            going = blocks.wipe(one.places[which]);
        }
        if (!going) {
            return afterCut();
        }
        one.there = false;
        setUsed(one, false);
        return one.recordBlocks + 1;
    }

    public int sweep() throws IllegalStateException {
        refuseWhenCut();
        int wiped = wipeFreeBlocks(NONE);
        return wiped == CUT ? afterCut() : wiped;
    }

    public int fuse(int bytes) throws IllegalStateException, IllegalArgumentException {
        refuseWhenCut();
        if (bytes < NONE) {
            throw new IllegalArgumentException("a fuse is of 0 bytes or more, or NONE");
        }
        int before = blocks.fuse;
        blocks.fuse = bytes;
        return before;
    }

    public int reopen() {
        blocks.fuse = NONE;
        blocks.cut = false;
        forget();
        for (int number = 0; number < MOST_NUMBERS; number++) {
            openNumber(number);
        }
        return countKept();
    }

    public int poke(int block, int i, int mask) throws IndexOutOfBoundsException, IllegalArgumentException {
        refuseUnlessByte(block, i);
        if (mask < 0 || mask > 255) {
            throw new IllegalArgumentException("a mask is 0 .. 255");
        }
        return blocks.turn(block, i, mask);
    }

    public int badAt() {
        for (int block = 0; block < blocks.count; block++) {
            if (!blocks.isBlank(block) && !blocks.isGood(block)) {
                return block;
            }
        }
        return NONE;
    }

    public int byteAt(int block, int i) throws IndexOutOfBoundsException {
        refuseUnlessByte(block, i);
        return blocks.get(block, i);
    }

    public int told(int what) {
        switch (what) {
            case 0:
                return blocks.count;
            case 1:
                return blocks.cut ? 0 : countFreeBlocks();
            case 2:
                return countKept();
            case 3:
                return countMade();
            case 4:
                return foundCount;
            case 5:
                return blocks.cut ? 1 : 0;
            case 6:
                return blocks.fuse;
            default:
                return NONE;
        }
    }

    private void refuseWhenCut() {
        if (blocks.cut) {
            throw new IllegalStateException("the library is cut");
        }
    }

    private void refuseUnlessByte(int block, int i) {
        if (block < 0 || block >= blocks.count || i < 0 || i >= Blocks.SIZE) {
            throw new IndexOutOfBoundsException("no such byte of a block");
        }
    }

    private static void refuseUnlessWhole(Picture picture) {
        if (!picture.isWhole()) {
            throw new IllegalArgumentException("the picture is not whole");
        }
    }

    private Picture pictureBeingMade(int picture) {
        if (picture < 0 || picture >= MOST_MADE || !made[picture].there) {
            throw new IndexOutOfBoundsException("no such picture is being made");
        }
        return made[picture];
    }

    private Kept keptAt(int number) {
        if (number < 0 || number >= MOST_NUMBERS || !kept[number].there) {
            throw new IndexOutOfBoundsException("no such number is there");
        }
        return kept[number];
    }

    /** Of the numbers below an end, the one that is there with a digest; NONE. */
    private int numberWith(int[] digest, int end) {
        for (int number = 0; number < end; number++) {
            if (kept[number].there && kept[number].hasDigest(digest)) {
                return number;
            }
        }
        return NONE;
    }

    private int freeNumber() {
        for (int number = 0; number < MOST_NUMBERS; number++) {
            if (!kept[number].there) {
                return number;
            }
        }
        return NONE;
    }

    /** Finds the first free blocks for a record and, behind it, its mark; false if they are too few. */
    private boolean choosePlaces(Kept one, int recordBlocks) {
        int chosen = 0;
        for (int block = 0; block < blocks.count && chosen <= recordBlocks; block++) {
            if (!used[block]) {
                one.places[chosen] = block;
                chosen++;
            }
        }
        return chosen > recordBlocks;
    }

    /** Writes a picture to the places chosen for its number; false if the fuse ended before all was written. */
    private boolean commit(int number, Picture source) {
        if (wipeFreeBlocks(number) == CUT) {
            return false;
        }
        Kept one = kept[number];
        int recordBlocks = source.recordBlocks();
        boolean going = true;
        for (int which = 0; which < recordBlocks && going; which++) {
            going = blocks.writeRecordBlock(one.places[which], number, which, source);
        }
        if (!going || !blocks.writeMark(one.places[recordBlocks], number, recordBlocks)) {
            return false;
        }
        one.picture.copyFrom(source);
        System.arraycopy(freshDigest, 0, one.digest, 0, DIGEST_WORDS);
        admit(one, recordBlocks);
        return true;
    }

    /** Makes a number be there whose picture, digest and places stand already. */
    private void admit(Kept one, int recordBlocks) {
        one.there = true;
        one.print = one.picture.printBits();
        one.recordBlocks = recordBlocks;
        setUsed(one, true);
    }

    private void setUsed(Kept one, boolean to) {
        for (int i = 0; i <= one.recordBlocks; i++) {
            used[one.places[i]] = to;
        }
    }

    /** Wipes the free blocks that are not all 0 and bear a number (NONE: any): how many, or CUT. */
    private int wipeFreeBlocks(int number) {
        int wiped = 0;
        for (int block = 0; block < blocks.count; block++) {
            boolean asked = number == NONE || blocks.get(block, Blocks.NUMBER_AT) == number;
            if (!used[block] && asked && !blocks.isBlank(block)) {
                if (!blocks.wipe(block)) {
                    return CUT;
                }
                wiped++;
            }
        }
        return wiped;
    }

    private void openNumber(int number) {
        Kept one = kept[number];
        int mark = blocks.onlyGood(Blocks.MARK, number, NONE);
        if (mark == NONE || !blocks.isMarkAsTold(mark)) {
            return;
        }
        int recordBlocks = blocks.get(mark, Blocks.DATA_AT);
        if (!readRecord(one, number, recordBlocks)) {
            return;
        }
        digester.work(one.picture.message, one.picture.length(), one.digest);
        if (numberWith(one.digest, number) != NONE) {
            return;
        }
        one.places[recordBlocks] = mark;
        admit(one, recordBlocks);
    }

    /** Reads a number's picture from its record; false if the record is not whole or is no picture's. */
    private boolean readRecord(Kept one, int number, int recordBlocks) {
        int length = 0;
        for (int which = 0; which < recordBlocks && which < MOST_RECORD_BLOCKS; which++) {
            int place = blocks.onlyGood(Blocks.kindOf(which), number, which);
            if (place == NONE) {
                return false;
            }
            int count = blocks.get(place, Blocks.COUNT_AT);
            boolean last = which == recordBlocks - 1;
            if ((!last && count != Blocks.DATA_SIZE) || length + count > Picture.MOST_BYTES) {
                return false;
            }
            blocks.copyData(place, count, one.picture.message, length);
            one.places[which] = place;
            length += count;
        }
        return one.picture.fillsMessage(length);
    }

    /** Puts a number among those found, behind all that differ in no more bits. */
    private void enterFound(int number, int bits) {
        int at = foundCount;
        while (at > 0 && foundBits[at - 1] > bits) {
            foundNumbers[at] = foundNumbers[at - 1];
            foundBits[at] = foundBits[at - 1];
            at--;
        }
        foundNumbers[at] = number;
        foundBits[at] = bits;
        foundCount++;
    }

    private int afterCut() {
        forget();
        return CUT;
    }

    /** Leaves nothing but the blocks. */
    private void forget() {
        for (int i = 0; i < MOST_MADE; i++) {
            made[i].there = false;
        }
        for (int i = 0; i < MOST_NUMBERS; i++) {
            kept[i].there = false;
        }
        for (int i = 0; i < blocks.count; i++) {
            used[i] = false;
        }
        foundCount = 0;
    }

    private int countFreeBlocks() {
        int count = 0;
        for (int i = 0; i < blocks.count; i++) {
            count += used[i] ? 0 : 1;
        }
        return count;
    }

    private int countKept() {
        int count = 0;
        for (int i = 0; i < MOST_NUMBERS; i++) {
            count += kept[i].there ? 1 : 0;
        }
        return count;
    }

    private int countMade() {
        int count = 0;
        for (int i = 0; i < MOST_MADE; i++) {
            count += made[i].there ? 1 : 0;
        }
        return count;
    }

    /** A picture as its message: the width, the height, then the samples that it has. */
    private static final class Picture {
        static final int MOST_SIDE = 8;
        static final int HEAD = 2;
        static final int MOST_BYTES = HEAD + MOST_SIDE * MOST_SIDE;

        boolean there;
        final int[] message;
        private int had;

        Picture() {
            there = false;
            message = new int[MOST_BYTES];
            had = 0;
        }

        static boolean isSide(int side) {
            return side >= 1 && side <= MOST_SIDE;
        }

        void begin(int width, int height) {
            there = true;
            message[0] = width;
            message[1] = height;
            had = 0;
        }

        void copyFrom(Picture other) {
            System.arraycopy(other.message, 0, message, 0, MOST_BYTES);
            had = other.had;
        }

        int width() {
            return message[0];
        }

        int height() {
            return message[1];
        }

        int wanted() {
            return width() * height();
        }

        boolean isWhole() {
            return had == wanted();
        }

        int length() {
            return HEAD + had;
        }

        int recordBlocks() {
            return (length() + Blocks.DATA_SIZE - 1) / Blocks.DATA_SIZE;
        }

        int take(int n, int v, int step) {
            int coming = Math.min(n, wanted() - had);
            int value = v;
            for (int i = 0; i < coming; i++) {
                message[HEAD + had] = value & 255;
                had++;
                value += step;
            }
            return had;
        }

        int at(int x, int y) {
            return message[HEAD + y * width() + x];
        }

        /** Whether so many bytes, which stand in the message, are those of a whole picture. */
        boolean fillsMessage(int length) {
            if (length <= HEAD || !isSide(width()) || !isSide(height())) {
                return false;
            }
            had = length - HEAD;
            return isWhole();
        }

        long printBits() {
            int sum = 0;
            for (int i = 0; i < had; i++) {
                sum += message[HEAD + i];
            }
            long bits = 0;
            for (int bit = 0; bit < PRINT_BITS; bit++) {
                int x = bit % MOST_SIDE * width() / MOST_SIDE;
                int y = bit / MOST_SIDE * height() / MOST_SIDE;
                if (at(x, y) * had > sum) {
                    bits |= 1L << bit;
                }
            }
            return bits;
        }
    }

    /** What has a number: it is held apart from the blocks, since a poke changes the block alone. */
    private static final class Kept {
        boolean there;
        final Picture picture;
        final int[] digest;
        long print;
        int recordBlocks;
        /** The blocks of the record in order, then the mark's. */
        final int[] places;

        Kept() {
            there = false;
            picture = new Picture();
            digest = new int[DIGEST_WORDS];
            print = 0;
            recordBlocks = 0;
            places = new int[MOST_RECORD_BLOCKS + 1];
        }

        boolean hasDigest(int[] other) {
            for (int i = 0; i < DIGEST_WORDS; i++) {
                if (digest[i] != other[i]) {
                    return false;
                }
            }
            return true;
        }
    }

    /** The blocks of bytes, and the fuse that burns with each byte written. */
    private static final class Blocks {
        static final int SIZE = 64;
        static final int KIND_AT = 4;
        static final int NUMBER_AT = 5;
        static final int WHICH_AT = 6;
        static final int COUNT_AT = 7;
        static final int DATA_AT = 8;
        static final int DATA_SIZE = SIZE - DATA_AT;
        static final int FIRST = 1;
        static final int FURTHER = 2;
        static final int MARK = 3;

        final int count;
        int fuse;
        boolean cut;
        private final int[] bytes;
        /** The block that is about to be written. */
        private final int[] image;

        Blocks(int count) {
            this.count = count;
            fuse = NONE;
            cut = false;
            bytes = new int[count * SIZE];
            image = new int[SIZE];
        }

        static int kindOf(int which) {
            return which == 0 ? FIRST : FURTHER;
        }

        int get(int block, int i) {
            return bytes[block * SIZE + i];
        }

        int turn(int block, int i, int mask) {
            bytes[block * SIZE + i] ^= mask;
            return get(block, i);
        }

        boolean isBlank(int block) {
            for (int i = 0; i < SIZE; i++) {
                if (get(block, i) != 0) {
                    return false;
                }
            }
            return true;
        }

        boolean isGood(int block) {
            int kind = get(block, KIND_AT);
            return kind >= FIRST && kind <= MARK && get(block, NUMBER_AT) < MOST_NUMBERS
                    && get(block, COUNT_AT) <= DATA_SIZE && hasRightSum(block);
        }

        private boolean hasRightSum(int block) {
            int sum = sumOf(block, bytes, block * SIZE);
            for (int i = 0; i < KIND_AT; i++) {
                if (get(block, i) != byteOfSum(sum, i)) {
                    return false;
                }
            }
            return true;
        }

        /** The sum that a block at a place has whose bytes stand in a row from a start on. */
        private static int sumOf(int place, int[] row, int start) {
            int sum = place + 256;
            for (int i = KIND_AT; i < SIZE; i++) {
                sum = Integer.rotateLeft(sum ^ row[start + i], 7) * 0x165667B1;
            }
            return sum;
        }

        private static int byteOfSum(int sum, int i) {
            return (sum >>> (8 * i)) & 255;
        }

        /** The place of the only good block with a kind, a number and a which (NONE: any); NONE. */
        int onlyGood(int kind, int number, int which) {
            int place = NONE;
            for (int block = 0; block < count; block++) {
                boolean asked = get(block, KIND_AT) == kind && get(block, NUMBER_AT) == number
                        && (which == NONE || get(block, WHICH_AT) == which);
                if (asked && isGood(block)) {
                    if (place != NONE) {
                        return NONE;
                    }
                    place = block;
                }
            }
            return place;
        }

        boolean isMarkAsTold(int block) {
            int recordBlocks = get(block, DATA_AT);
            return get(block, WHICH_AT) == 0 && get(block, COUNT_AT) == 1
                    && recordBlocks >= 1 && recordBlocks <= MOST_RECORD_BLOCKS;
        }

        void copyData(int block, int length, int[] to, int start) {
            System.arraycopy(bytes, block * SIZE + DATA_AT, to, start, length);
        }

        boolean writeRecordBlock(int place, int number, int which, Picture source) {
            int start = which * DATA_SIZE;
            int length = Math.min(DATA_SIZE, source.length() - start);
            beginImage(kindOf(which), number, which, length);
            System.arraycopy(source.message, start, image, DATA_AT, length);
            return writeImage(place);
        }

        boolean writeMark(int place, int number, int recordBlocks) {
            beginImage(MARK, number, 0, 1);
            image[DATA_AT] = recordBlocks;
            return writeImage(place);
        }

        private void beginImage(int kind, int number, int which, int length) {
            Arrays.fill(image, 0);
            image[KIND_AT] = kind;
            image[NUMBER_AT] = number;
            image[WHICH_AT] = which;
            image[COUNT_AT] = length;
        }

        /** The kind is 0 till all else stands, so that a block half written is never good. */
        private boolean writeImage(int place) {
            int sum = sumOf(place, image, 0);
            boolean going = put(place, KIND_AT, 0);
            for (int i = KIND_AT + 1; i < SIZE && going; i++) {
                going = put(place, i, image[i]);
            }
            for (int i = 0; i < KIND_AT && going; i++) {
                going = put(place, i, byteOfSum(sum, i));
            }
            return going && put(place, KIND_AT, image[KIND_AT]);
        }

        boolean wipe(int block) {
            boolean going = put(block, KIND_AT, 0);
            for (int i = 0; i < SIZE && going; i++) {
                if (i != KIND_AT) {
                    going = put(block, i, 0);
                }
            }
            return going;
        }

        /** Writes a byte; false, and the library is cut, if the fuse has ended. */
        private boolean put(int block, int i, int value) {
            if (fuse == 0) {
                cut = true;
                return false;
            }
            if (fuse != NONE) {
                fuse--;
            }
            bytes[block * SIZE + i] = value;
            return true;
        }
    }

    /** The digest of FIPS 180-4 with 256 bits, of messages as short as a picture's. */
    private static final class Digester {
        private static final int CHUNK = 64;
        private static final int LENGTH_SIZE = 8;
        private static final int[] START = {
            0x6a09e667, 0xbb67ae85, 0x3c6ef372, 0xa54ff53a, 0x510e527f, 0x9b05688c, 0x1f83d9ab, 0x5be0cd19
        };
        private static final int[] ROUND = {
            0x428a2f98, 0x71374491, 0xb5c0fbcf, 0xe9b5dba5, 0x3956c25b, 0x59f111f1, 0x923f82a4, 0xab1c5ed5,
            0xd807aa98, 0x12835b01, 0x243185be, 0x550c7dc3, 0x72be5d74, 0x80deb1fe, 0x9bdc06a7, 0xc19bf174,
            0xe49b69c1, 0xefbe4786, 0x0fc19dc6, 0x240ca1cc, 0x2de92c6f, 0x4a7484aa, 0x5cb0a9dc, 0x76f988da,
            0x983e5152, 0xa831c66d, 0xb00327c8, 0xbf597fc7, 0xc6e00bf3, 0xd5a79147, 0x06ca6351, 0x14292967,
            0x27b70a85, 0x2e1b2138, 0x4d2c6dfc, 0x53380d13, 0x650a7354, 0x766a0abb, 0x81c2c92e, 0x92722c85,
            0xa2bfe8a1, 0xa81a664b, 0xc24b8b70, 0xc76c51a3, 0xd192e819, 0xd6990624, 0xf40e3585, 0x106aa070,
            0x19a4c116, 0x1e376c08, 0x2748774c, 0x34b0bcb5, 0x391c0cb3, 0x4ed8aa4a, 0x5b9cca4f, 0x682e6ff3,
            0x748f82ee, 0x78a5636f, 0x84c87814, 0x8cc70208, 0x90befffa, 0xa4506ceb, 0xbef9a3f7, 0xc67178f2
        };

        private final int[] padded;
        private final int[] schedule;
        private final int[] state;

        Digester() {
            padded = new int[2 * CHUNK];
            schedule = new int[CHUNK];
            state = new int[DIGEST_WORDS];
        }

        void work(int[] message, int length, int[] into) {
            int end = pad(message, length);
            System.arraycopy(START, 0, into, 0, DIGEST_WORDS);
            for (int start = 0; start < end; start += CHUNK) {
                prepare(start);
                mix(into);
            }
        }

        private int pad(int[] message, int length) {
            Arrays.fill(padded, 0);
            System.arraycopy(message, 0, padded, 0, length);
            padded[length] = 0x80;
            int end = length + 1 + LENGTH_SIZE <= CHUNK ? CHUNK : 2 * CHUNK;
            int bits = 8 * length;
            padded[end - 2] = bits >>> 8;
            padded[end - 1] = bits & 255;
            return end;
        }

        private void prepare(int start) {
            for (int t = 0; t < 16; t++) {
                int at = start + 4 * t;
                schedule[t] = padded[at] << 24 | padded[at + 1] << 16 | padded[at + 2] << 8 | padded[at + 3];
            }
            for (int t = 16; t < CHUNK; t++) {
                int early = schedule[t - 15];
                int late = schedule[t - 2];
                int earlyMix = Integer.rotateRight(early, 7) ^ Integer.rotateRight(early, 18) ^ early >>> 3;
                int lateMix = Integer.rotateRight(late, 17) ^ Integer.rotateRight(late, 19) ^ late >>> 10;
                schedule[t] = lateMix + schedule[t - 7] + earlyMix + schedule[t - 16];
            }
        }

        private void mix(int[] into) {
            System.arraycopy(into, 0, state, 0, DIGEST_WORDS);
            for (int t = 0; t < CHUNK; t++) {
                turnRound(ROUND[t] + schedule[t]);
            }
            for (int i = 0; i < DIGEST_WORDS; i++) {
                into[i] += state[i];
            }
        }

        private void turnRound(int added) {
            int a = state[0];
            int e = state[4];
            int eMix = Integer.rotateRight(e, 6) ^ Integer.rotateRight(e, 11) ^ Integer.rotateRight(e, 25);
            int choice = (e & state[5]) ^ (~e & state[6]);
            int first = state[7] + eMix + choice + added;
            int aMix = Integer.rotateRight(a, 2) ^ Integer.rotateRight(a, 13) ^ Integer.rotateRight(a, 22);
            int majority = (a & state[1]) ^ (a & state[2]) ^ (state[1] & state[2]);
            for (int i = DIGEST_WORDS - 1; i > 0; i--) {
                state[i] = state[i - 1];
            }
            state[4] += first;
            state[0] = first + aMix + majority;
        }
    }
}
