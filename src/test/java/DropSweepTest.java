import java.util.Arrays;

/** Promise 10 (drop) and promise 11 (sweep). */
public final class DropSweepTest {
    public static void main(String[] args) {
        dropWipesTheBlocks();
        dropWipesWhatWasPokedToo();
        theMarkIsWipedFirst();
        sweepWipesFreeBlocks();
        sweepGoesInOrder();
        whatIsRefused();
        aNumberIsDroppedOnce();
        theFirstAndTheLastNumber();
        aFuseJustLongEnoughForADrop();
        whatIsFoundStaysWhenDropped();
        nothingToSweep();
        noBlockIsFree();
        allFortyAreSwept();
        aFuseJustLongEnoughForASweep();
        oneByteIsEnoughToBeSwept();
        Check.finish();
    }

    private static void dropWipesTheBlocks() {
        Library x = new Library(10);
        Check.keep(x, 1, 1, 1, 1);
        Check.keep(x, 8, 8, 1, 1);
        Check.keep(x, 1, 1, 2, 1);
        x.fuse(5000);
        Check.due("drop of two record blocks", x.drop(1), 3);
        Check.due("bytes written", x.fuse(-1), 5000 - 3 * 64);
        for (int block = 2; block < 5; block++) {
            Check.dueBlock(x, "dropped", block, new int[64]);
        }
        Check.due("free", x.told(1), 6);
        Check.due("numbers", x.told(2), 2);
        Check.dueThrow("it is not there", Check.INDEX, () -> x.sample(1, 0, 0));
        Check.due("drop of one record block", x.drop(0), 2);
        Check.due("what was not dropped", x.sample(2, 0, 0), 2);
        Check.due("opened again", x.reopen(), 1);
        Check.due("what was not dropped", x.sample(2, 0, 0), 2);
    }

    /** The blocks of a number are wiped whatever stands in them, and also if that is all 0. */
    private static void dropWipesWhatWasPokedToo() {
        Library x = new Library(4);
        Check.keep(x, 1, 1, 1, 1);
        Check.forge(x, 0, new int[64]);
        Check.forge(x, 1, Check.block(1, 3, 9, 0, 1, 2));
        x.fuse(5000);
        Check.due("drop", x.drop(0), 2);
        Check.due("bytes written", x.fuse(-1), 5000 - 2 * 64);
        Check.dueSame("blocks", Arrays.toString(new int[256]), Arrays.toString(Look.bytes(x)));
    }

    /** "its kind becomes 0 first, then its other bytes": a fuse that ends at each of them. */
    private static void theMarkIsWipedFirst() {
        for (int bytes = 0; bytes <= 3 * 64; bytes++) {
            Library x = new Library(6);
            Check.keep(x, 1, 1, 1, 1);
            Check.keep(x, 8, 8, 1, 1);
            int[] wanted = Look.bytes(x);
            int[] blocks = {4, 2, 3};
            for (int i = 0; i < bytes; i++) {
                wanted[blocks[i / 64] * 64 + nthWiped(i % 64)] = 0;
            }
            x.fuse(bytes);
            Check.due("drop with a fuse of " + bytes, x.drop(1), bytes < 192 ? ContentLibrary.CUT : 3);
            Check.due("cut", x.told(5), bytes < 192 ? 1 : 0);
            Check.dueSame("after " + bytes, Arrays.toString(wanted), Arrays.toString(Look.bytes(x)));
            Check.due("opened again", x.reopen(), bytes == 0 ? 2 : 1);
        }
    }

    private static int nthWiped(int n) {
        return n == 0 ? 4 : n <= 4 ? n - 1 : n;
    }

    private static void sweepWipesFreeBlocks() {
        Library x = new Library(8);
        Check.keep(x, 8, 8, 1, 1);
        Check.due("nothing to sweep", x.sweep(), 0);
        int[] before = Look.bytes(x);
        x.poke(3, 0, 1);
        x.poke(5, 63, 128);
        Check.forge(x, 6, Check.block(6, 1, 3, 0, 3, 1, 1, 9));
        x.poke(0, 63, 9);
        before[63] ^= 9;
        x.fuse(1000);
        Check.due("three to sweep", x.sweep(), 3);
        Check.due("bytes written", x.fuse(-1), 1000 - 3 * 64);
        Check.dueSame("swept", Arrays.toString(before), Arrays.toString(Look.bytes(x)));
        x.reopen();
        Check.due("blocks of what is no more there", x.sweep(), 3);
        Check.dueSame("all swept", Arrays.toString(new int[512]), Arrays.toString(Look.bytes(x)));
    }

    /** "are wiped, in order": a fuse that ends at each byte. */
    private static void sweepGoesInOrder() {
        for (int bytes = 0; bytes <= 128; bytes++) {
            Library x = new Library(5);
            for (int i = 0; i < 64; i++) {
                x.poke(1, i, 1 + i);
                x.poke(4, i, 100 + i);
            }
            int[] wanted = Look.bytes(x);
            for (int i = 0; i < bytes; i++) {
                wanted[(i < 64 ? 1 : 4) * 64 + nthWiped(i % 64)] = 0;
            }
            x.fuse(bytes);
            Check.due("sweep with a fuse of " + bytes, x.sweep(), bytes < 128 ? ContentLibrary.CUT : 2);
            Check.dueSame("after " + bytes, Arrays.toString(wanted), Arrays.toString(Look.bytes(x)));
        }
    }

    private static void whatIsRefused() {
        Library x = new Library(8);
        Check.keep(x, 2, 2, 1, 1);
        for (int number : new int[] {Integer.MIN_VALUE, -1, 1, 15, 16, Integer.MAX_VALUE}) {
            Check.dueRefusal(x, "drop(" + number + ")", Check.INDEX, () -> x.drop(number));
        }
        x.fuse(0);
        Check.due("nothing to sweep, nothing to write", x.sweep(), 0);
        x.drop(0);
        Check.dueRefusal(x, "drop", Check.STATE, () -> x.drop(0));
        Check.dueRefusal(x, "drop of none", Check.STATE, () -> x.drop(-1));
        Check.dueRefusal(x, "sweep", Check.STATE, () -> x.sweep());
    }

    /** A number that was dropped is no such number. */
    private static void aNumberIsDroppedOnce() {
        Library x = new Library(4);
        Check.keep(x, 1, 1, 1, 1);
        Check.due("drop", x.drop(0), 2);
        Check.dueRefusal(x, "drop again", Check.INDEX, () -> x.drop(0));
    }

    /** "0 .. 15" */
    private static void theFirstAndTheLastNumber() {
        Library x = new Library(40);
        for (int i = 0; i < 16; i++) {
            Check.keep(x, 1, 1, i, 1);
        }
        Check.dueThrow("before the first", Check.INDEX, () -> x.drop(-1));
        Check.dueThrow("behind the last", Check.INDEX, () -> x.drop(16));
        Check.due("the last", x.drop(15), 2);
        Check.due("the first", x.drop(0), 2);
        Check.dueTold(x, "dropped", 40, 12, 14);
        Check.dueBlock(x, "the first's", 0, new int[64]);
        Check.dueBlock(x, "the last's", 31, new int[64]);
    }

    /** "CUT, if the fuse ended before all were" */
    private static void aFuseJustLongEnoughForADrop() {
        for (int size = 2; size <= 3; size++) {
            Library x = new Library(4);
            Check.keep(x, 8, size == 2 ? 1 : 8, 1, 1);
            x.fuse(64 * size);
            Check.due("just enough", x.drop(0), size);
            Check.dueTold(x, "just enough", 4, 4, 0, 0, 0, 0, 0);
            Library y = new Library(4);
            Check.keep(y, 8, size == 2 ? 1 : 8, 1, 1);
            y.fuse(64 * size - 1);
            Check.due("a byte too few", y.drop(0), ContentLibrary.CUT);
            Check.dueTold(y, "a byte too few", 4, 0, 0, 0, 0, 1, 0);
            Check.due("its number is not there", y.reopen(), 0);
        }
    }

    /** "those found last" are those that were there then. */
    private static void whatIsFoundStaysWhenDropped() {
        Library x = new Library(4);
        Check.keep(x, 1, 1, 1, 1);
        x.near(Check.make(x, 1, 1, 1, 1), 0);
        x.drop(0);
        Check.due("found", x.told(4), 1);
        Check.due("its number", x.found(0, 0), 0);
        Check.due("near again", x.near(0, 64), 0);
        Check.due("found", x.told(4), 0);
    }

    /** All is 0: none is wiped, and a fuse at its end does not cut. */
    private static void nothingToSweep() {
        Library x = new Library(40);
        x.fuse(0);
        Check.due("all 0", x.sweep(), 0);
        Check.due("not cut", x.told(5), 0);
        Check.due("the fuse", x.told(6), 0);
    }

    /** "Free blocks": those in use stay as they are. */
    private static void noBlockIsFree() {
        Library x = new Library(2);
        Check.keep(x, 1, 1, 1, 1);
        x.poke(0, 63, 255);
        x.fuse(0);
        Check.due("in use, and not swept", x.sweep(), 0);
        Check.due("the byte", x.byteAt(0, 63), 255);
    }

    /** As many as there can be. */
    private static void allFortyAreSwept() {
        Library x = new Library(40);
        for (int block = 0; block < 40; block++) {
            x.poke(block, block, 1 + block);
        }
        x.fuse(40 * 64);
        Check.due("sweep", x.sweep(), 40);
        Check.due("the fuse", x.told(6), 0);
        Check.due("sweep again", x.sweep(), 0);
        Check.dueSame("all swept", Arrays.toString(new int[2560]), Arrays.toString(Look.bytes(x)));
    }

    /** "CUT, if the fuse ended before all were" */
    private static void aFuseJustLongEnoughForASweep() {
        for (int bytes = 127; bytes <= 129; bytes++) {
            Library x = new Library(40);
            x.poke(0, 0, 1);
            x.poke(39, 63, 1);
            x.fuse(bytes);
            Check.due("with " + bytes, x.sweep(), bytes < 128 ? ContentLibrary.CUT : 2);
            Check.due("cut", x.told(5), bytes < 128 ? 1 : 0);
            Check.due("the fuse", x.told(6), bytes == 129 ? 1 : 0);
            Check.due("the last byte", x.byteAt(39, 63), bytes < 128 ? 1 : 0);
        }
    }

    /** "that are not all 0" */
    private static void oneByteIsEnoughToBeSwept() {
        for (int i = 0; i < 64; i++) {
            Library x = new Library(3);
            x.poke(1, i, 1);
            Check.due("byte " + i, x.sweep(), 1);
            Check.due("the byte", x.byteAt(1, i), 0);
        }
    }
}
