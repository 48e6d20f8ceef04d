import java.util.Arrays;

/** Promise 5 (digest), promise 6 (print) and promise 7 (sample). */
public final class ContentTest {
    public static void main(String[] args) {
        ofEverySize();
        aDigestThatIsKnown();
        printsThatAreKnown();
        pokesChangeTheBlockAlone();
        whatIsRefused();
        nothingWhenCut();
        digestsOfMessagesAtAnEdge();
        theFirstAndTheLastWord();
        equalIsNotAbove();
        byOneAbove();
        oneBitOfAPrint();
        placesOfAPrintGoDownward();
        theFirstAndTheLastSample();
        contentOfTheFirstAndTheLastNumber();
        Check.finish();
    }

    /** The message, the digest, the print and the samples of each width and height, 1 .. 8. */
    private static void ofEverySize() {
        for (int width = 1; width <= 8; width++) {
            for (int height = 1; height <= 8; height++) {
                Library x = new Library(6);
                Check.keep(x, 1, 1, 200, 0);
                int number = Check.keep(x, width, height, 3 * width, 37 + 11 * height);
                dueContent(x, number, Check.message(width, height, 3 * width, 37 + 11 * height));
                x.reopen();
                dueContent(x, number, Check.message(width, height, 3 * width, 37 + 11 * height));
            }
        }
    }

    private static void dueContent(Library x, int number, int[] message) {
        int width = message[0];
        int height = message[1];
        String of = "of " + width + " by " + height + ": ";
        int[] digest = Check.digest(message);
        for (int i = 0; i < 8; i++) {
            Check.due(of + "digest " + i, x.digest(number, i), digest[i]);
        }
        int sum = 0;
        for (int i = 0; i < width * height; i++) {
            Check.due(of + "sample " + i, x.sample(number, i % width, i / width), message[2 + i]);
            sum += message[2 + i];
        }
        for (int y = 0; y < 8; y++) {
            for (int x8 = 0; x8 < 8; x8++) {
                int sample = message[2 + y * height / 8 * width + x8 * width / 8];
                long bit = x.print(number) >>> (8 * y + x8) & 1;
                Check.due(of + "print at " + x8 + ", " + y, bit, sample * width * height > sum ? 1 : 0);
            }
        }
    }

    private static void aDigestThatIsKnown() {
        // The SHA-256 of the three bytes 1, 1, 0, as sha256sum tells it.
        int[] words = {0x9f44ac6a, 0xcb8a37b0, 0x0b615dc8, 0x9259d306, 0x035be82d, 0xee7db2b4, 0x72e4c483, 0x26195440};
        Library x = new Library(2);
        Check.keep(x, 1, 1, 0, 0);
        for (int i = 0; i < 8; i++) {
            Check.due("digest " + i, x.digest(0, i), words[i]);
        }
    }

    private static void printsThatAreKnown() {
        Library x = new Library(40);
        Check.due("one colour is never above", x.print(Check.keep(x, 8, 8, 255, 0)), 0L);
        Check.due("one sample", x.print(Check.keep(x, 1, 1, 255, 0)), 0L);
        Check.due("right half", x.print(Check.keep(x, 2, 1, 0, 1)), 0xF0F0F0F0F0F0F0F0L);
        Check.due("lower half", x.print(Check.keep(x, 1, 2, 0, 1)), 0xFFFFFFFF00000000L);
        Check.due("the last of three columns", x.print(Check.keep(x, 3, 1, 7, 7)), 0xC0C0C0C0C0C0C0C0L);
        Check.due("four rows of eight", x.print(Check.keep(x, 8, 8, 0, 1)), 0xFFFFFFFF00000000L);
    }

    /** A poke changes a byte "in the block alone": what has a number stays as it was. */
    private static void pokesChangeTheBlockAlone() {
        Library x = new Library(4);
        Check.keep(x, 2, 2, 10, 20);
        for (int block = 0; block < 2; block++) {
            for (int i = 0; i < 64; i++) {
                x.poke(block, i, 255);
            }
        }
        dueContent(x, 0, Check.message(2, 2, 10, 20));
        Check.due("numbers", x.told(2), 1);
        Check.due("free blocks", x.told(1), 2);
    }

    private static void whatIsRefused() {
        Library x = new Library(6);
        Check.keep(x, 3, 2, 1, 1);
        for (int number : new int[] {Integer.MIN_VALUE, -1, 1, 15, 16, Integer.MAX_VALUE}) {
            Check.dueRefusal(x, "digest(" + number + ", 0)", Check.INDEX, () -> x.digest(number, 0));
            Check.dueRefusal(x, "print(" + number + ")", Check.INDEX, () -> (int) x.print(number));
            Check.dueRefusal(x, "sample(" + number + ", 0, 0)", Check.INDEX, () -> x.sample(number, 0, 0));
        }
        for (int i : new int[] {Integer.MIN_VALUE, -1, 8, Integer.MAX_VALUE}) {
            Check.dueRefusal(x, "digest(0, " + i + ")", Check.INDEX, () -> x.digest(0, i));
        }
        int[][] places = {{-1, 0}, {3, 0}, {0, -1}, {0, 2}, {2, 2}, {Integer.MAX_VALUE, 0}, {0, Integer.MIN_VALUE}};
        for (int[] p : places) {
            Check.dueRefusal(x, "sample(0, " + p[0] + ", " + p[1] + ")", Check.INDEX, () -> x.sample(0, p[0], p[1]));
        }
    }

    private static void nothingWhenCut() {
        Library x = new Library(6);
        Check.keep(x, 3, 2, 1, 1);
        x.fuse(0);
        Check.keep(x, 3, 2, 2, 1);
        Check.dueRefusal(x, "digest", Check.STATE, () -> x.digest(0, 0));
        Check.dueRefusal(x, "digest of none", Check.STATE, () -> x.digest(-1, 9));
        Check.dueRefusal(x, "print", Check.STATE, () -> (int) x.print(0));
        Check.dueRefusal(x, "sample", Check.STATE, () -> x.sample(0, 0, 0));
    }

    /** The messages of FIPS 180-4 at an edge: all in one block, its length in a second, its bytes in a second. */
    private static void digestsOfMessagesAtAnEdge() {
        // As Python's hashlib tells them.
        dueDigest(7, 7, 255, 255, 0x39e6f852, 0xb31edd3e, 0xd079647c, 0x9b58faba, 0x12bb01ff, 0xf412cc40, 0xf1ca4537,
                0x9858b343);
        dueDigest(7, 8, 0, 1, 0x034d1278, 0xb6701526, 0xf2b188d6, 0x5f7a5545, 0x86c74dbf, 0x66dfa8fa, 0xf77bdf49,
                0x97dc51ec);
        dueDigest(8, 8, 255, 0, 0x78def8cc, 0x9e5a361b, 0x71ec5ba8, 0x8d32f43f, 0xd5c43b42, 0x58a8d99f, 0x81a9a132,
                0x6ce34591);
    }

    private static void dueDigest(int width, int height, int v, int step, int... words) {
        Library x = new Library(3);
        Check.keep(x, width, height, v, step);
        for (int i = 0; i < 8; i++) {
            Check.due("digest " + i + " of " + width + " by " + height, x.digest(0, i), words[i]);
        }
    }

    /** "eight words" */
    private static void theFirstAndTheLastWord() {
        Library x = new Library(2);
        Check.keep(x, 5, 5, 3, 9);
        Check.due("the first", x.digest(0, 0), 0x2926b118);
        Check.due("the last", x.digest(0, 7), 0xc6fd1118);
        Check.dueThrow("before the first", Check.INDEX, () -> x.digest(0, -1));
        Check.dueThrow("behind the last", Check.INDEX, () -> x.digest(0, 8));
    }

    private static long printOf(int width, int height, int... samples) {
        Library x = new Library(3);
        x.picture(width, height);
        for (int sample : samples) {
            x.samples(0, 1, sample, 0);
        }
        return x.print(x.keep(0));
    }

    /** "is above their sum": a sample that is just the mean is not. */
    private static void equalIsNotAbove() {
        Check.due("all 0", printOf(1, 1, 0), 0L);
        Check.due("all 255", printOf(2, 2, 255, 255, 255, 255), 0L);
        Check.due("the mean in the midst", printOf(3, 1, 1, 2, 3), 0xC0C0C0C0C0C0C0C0L);
        Check.due("the mean at first", printOf(1, 3, 2, 1, 3), 0xFFFF000000000000L);
    }

    /** The least that is above: by one in all. */
    private static void byOneAbove() {
        Check.due("1 times 3 above 2", printOf(3, 1, 1, 1, 0), 0x3F3F3F3F3F3F3F3FL);
        Check.due("1 times 2 above 1", printOf(2, 1, 1, 0), 0x0F0F0F0F0F0F0F0FL);
        Check.due("255 times 2 above 509", printOf(1, 2, 255, 254), 0x00000000FFFFFFFFL);
    }

    /** "bit 8 y + x", from bit 0 to bit 63. */
    private static void oneBitOfAPrint() {
        for (int bit = 0; bit < 64; bit++) {
            int[] samples = new int[64];
            samples[bit] = 1;
            Check.due("one sample above, at " + bit, printOf(8, 8, samples), 1L << bit);
            Arrays.fill(samples, 255);
            samples[bit] = 254;
            Check.due("one sample below, at " + bit, printOf(8, 8, samples), ~(1L << bit));
        }
    }

    /** "(x times the width / 8, y times the height / 8), downward" */
    private static void placesOfAPrintGoDownward() {
        long[] columns = {0xFF, 0xF0, 0xC0, 0xC0, 0x80, 0x80, 0x80, 0x80};
        for (int side = 2; side <= 8; side++) {
            int[] samples = new int[side];
            samples[side - 1] = 9;
            long inEveryRow = columns[side - 1] * 0x0101010101010101L;
            Check.due("the last of " + side + " columns", printOf(side, 1, samples), inEveryRow);
            long rows = 0;
            for (int y = 0; y < 8; y++) {
                rows |= (columns[side - 1] >> y & 1) * 0xFFL << 8 * y;
            }
            Check.due("the last of " + side + " rows", printOf(1, side, samples), rows);
        }
    }

    /** There is no such sample before and behind those of a row or a column. */
    private static void theFirstAndTheLastSample() {
        int[][] sizes = {{1, 1}, {8, 1}, {1, 8}, {3, 5}, {8, 8}};
        for (int[] s : sizes) {
            Library x = new Library(3);
            Check.keep(x, s[0], s[1], 100, 1);
            Check.due("the first", x.sample(0, 0, 0), 100);
            Check.due("the last", x.sample(0, s[0] - 1, s[1] - 1), 99 + s[0] * s[1]);
            Check.dueThrow("before a row", Check.INDEX, () -> x.sample(0, -1, s[1] - 1));
            Check.dueThrow("behind a row", Check.INDEX, () -> x.sample(0, s[0], 0));
            Check.dueThrow("before a column", Check.INDEX, () -> x.sample(0, s[0] - 1, -1));
            Check.dueThrow("behind a column", Check.INDEX, () -> x.sample(0, 0, s[1]));
        }
    }

    /** "0 .. 15" */
    private static void contentOfTheFirstAndTheLastNumber() {
        Library x = new Library(40);
        for (int i = 0; i < 16; i++) {
            Check.keep(x, 2, 1, i, 1);
        }
        dueContent(x, 0, Check.message(2, 1, 0, 1));
        dueContent(x, 15, Check.message(2, 1, 15, 1));
        x.reopen();
        dueContent(x, 0, Check.message(2, 1, 0, 1));
        dueContent(x, 15, Check.message(2, 1, 15, 1));
    }
}
