import java.util.Arrays;

/** Promise 12 (fuse), and that a cut at any byte leaves what was committed. */
public final class FuseTest {
    private static final int KEEPING = 64 + 3 * 65;

    public static void main(String[] args) {
        fuseTellsWhatItWas();
        fuseRefuses();
        onlyWritingBurns();
        aFuseThatEndsWithTheLastByte();
        aCutAtAnyByteOfKeeping();
        aCutAtAnyByteOfDropping();
        theLeastAndTheMostFuse();
        aFuseOfOneByte();
        aFuseOf0Bytes();
        noneTakesAFuseAway();
        aFuseIsSetAnewBeforeItsEnd();
        aFuseGoesOnOverCalls();
        onlyTheBlocksAreThereWhenCut();
        aCutAtAnyByteOfSweeping();
        Check.finish();
    }

    /** "what it was before (bytes to its end then; NONE)" */
    private static void fuseTellsWhatItWas() {
        Library x = new Library(10);
        Check.due("at first", x.fuse(500), ContentLibrary.NONE);
        Check.due("told", x.told(6), 500);
        Check.keep(x, 1, 1, 1, 1);
        Check.due("behind two blocks", x.fuse(Integer.MAX_VALUE), 500 - 130);
        Check.due("the most", x.fuse(0), Integer.MAX_VALUE);
        Check.due("told of 0", x.told(6), 0);
        Check.due("0 is not yet a cut", x.told(5), 0);
        Check.due("0", x.fuse(ContentLibrary.NONE), 0);
        Check.due("never", x.drop(0), 2);
        Check.due("none", x.fuse(9), ContentLibrary.NONE);
        x.reopen();
        Check.due("reopened", x.fuse(9), ContentLibrary.NONE);
    }

    private static void fuseRefuses() {
        Library x = new Library(10);
        x.fuse(77);
        Check.dueRefusal(x, "fuse(-2)", Check.ARGUMENT, () -> x.fuse(-2));
        Check.dueRefusal(x, "fuse(least)", Check.ARGUMENT, () -> x.fuse(Integer.MIN_VALUE));
        x.fuse(0);
        Check.keep(x, 1, 1, 1, 1);
        Check.dueRefusal(x, "fuse when cut", Check.STATE, () -> x.fuse(5));
        Check.dueRefusal(x, "fuse(NONE) when cut", Check.STATE, () -> x.fuse(-1));
        Check.dueRefusal(x, "fuse(-2) when cut", Check.STATE, () -> x.fuse(-2));
    }

    /** A call that writes no byte leaves the fuse as it is. */
    private static void onlyWritingBurns() {
        Library x = new Library(10);
        Check.keep(x, 1, 1, 1, 1);
        x.fuse(3);
        x.poke(5, 5, 5);
        x.poke(5, 5, 5);
        x.near(Check.make(x, 1, 1, 1, 1), 64);
        x.keep(0);
        x.sweep();
        x.badAt();
        Check.due("told", x.told(6), 3);
    }

    /** "CUT, if the fuse ended before its mark was written": with it is not before. */
    private static void aFuseThatEndsWithTheLastByte() {
        Library x = new Library(10);
        x.fuse(130);
        Check.due("keep", Check.keep(x, 1, 1, 1, 1), 0);
        Check.dueTold(x, "ended", 10, 8, 1, 0, 0, 0, 0);
        Check.due("its sample", x.sample(0, 0, 0), 1);
        Check.due("the next byte", Check.keep(x, 1, 1, 2, 1), ContentLibrary.CUT);
        Check.due("opened", x.reopen(), 1);
    }

    /** Two are there, and a block of old bytes with the number that is to come. */
    private static Library prepared() {
        Library x = new Library(12);
        Check.keep(x, 2, 2, 1, 1);
        Check.keep(x, 8, 7, 1, 3);
        for (int i = 0; i < 64; i++) {
            x.poke(9, i, 200 - i);
        }
        x.poke(9, 5, x.byteAt(9, 5) ^ 2);
        return x;
    }

    /** "so 65 bytes a block": a fuse that ends at each byte of a wiping, two record blocks and a mark. */
    private static void aCutAtAnyByteOfKeeping() {
        int[] message = Check.message(8, 8, 9, 13);
        int[] first = Check.block(5, 1, 2, 0, 56, Arrays.copyOf(message, 56));
        int[] further = Check.block(6, 2, 2, 1, 10, Arrays.copyOfRange(message, 56, 66));
        int[] mark = Check.block(7, 3, 2, 0, 1, 2);
        int[][] written = {first, further, mark};
        for (int bytes = 0; bytes <= KEEPING; bytes++) {
            Library x = prepared();
            int[] wanted = Look.bytes(x);
            for (int i = 0; i < bytes; i++) {
                if (i < 64) {
                    wanted[9 * 64 + (i == 0 ? 4 : i <= 4 ? i - 1 : i)] = 0;
                } else {
                    int block = (i - 64) / 65;
                    int n = (i - 64) % 65;
                    int at = n == 0 || n == 64 ? 4 : n < 60 ? n + 4 : n - 60;
                    wanted[(5 + block) * 64 + at] = n == 0 ? 0 : written[block][at];
                }
            }
            x.fuse(bytes);
            boolean cut = bytes < KEEPING;
            Check.due("keep with a fuse of " + bytes, Check.keep(x, 8, 8, 9, 13), cut ? ContentLibrary.CUT : 2);
            Check.due("cut", x.told(5), cut ? 1 : 0);
            Check.due("fuse", x.told(6), 0);
            Check.dueSame("after " + bytes, Arrays.toString(wanted), Arrays.toString(Look.bytes(x)));
            Check.due("opened", x.reopen(), cut ? 2 : 3);
            Check.due("first", x.sample(0, 1, 1), 4);
            Check.due("second", x.sample(1, 7, 6), 166);
            Check.due("kept at last", Check.keep(x, 8, 8, 9, 13), 2);
            Check.due("opened at last", x.reopen(), 3);
            Check.due("third", x.sample(2, 7, 7), (9 + 63 * 13) % 256);
        }
    }

    /** A number is there till the first byte of its mark is wiped. */
    private static void aCutAtAnyByteOfDropping() {
        for (int bytes = 0; bytes < 192; bytes++) {
            Library x = prepared();
            x.fuse(bytes);
            Check.due("drop with a fuse of " + bytes, x.drop(1), ContentLibrary.CUT);
            Check.due("opened", x.reopen(), bytes == 0 ? 2 : 1);
            Check.due("first", x.sample(0, 1, 1), 4);
            x.sweep();
            Check.due("swept", x.badAt(), ContentLibrary.NONE);
        }
    }

    /** "IllegalArgument: it is below NONE." */
    private static void theLeastAndTheMostFuse() {
        Library x = new Library(4);
        Check.dueRefusal(x, "below NONE", Check.ARGUMENT, () -> x.fuse(ContentLibrary.NONE - 1));
        Check.due("NONE", x.fuse(ContentLibrary.NONE), ContentLibrary.NONE);
        Check.due("the most", x.fuse(Integer.MAX_VALUE), ContentLibrary.NONE);
        Check.keep(x, 1, 1, 1, 1);
        Check.due("what is left of the most", x.fuse(0), Integer.MAX_VALUE - 130);
    }

    /** "after so many bytes more the next one is not written" */
    private static void aFuseOfOneByte() {
        Library x = new Library(4);
        x.poke(0, 4, 77);
        x.poke(0, 5, 88);
        x.fuse(1);
        Check.due("keep", Check.keep(x, 1, 1, 1, 1), ContentLibrary.CUT);
        Check.due("the first byte, its kind", x.byteAt(0, 4), 0);
        Check.due("the second byte, its number", x.byteAt(0, 5), 88);
    }

    private static void aFuseOf0Bytes() {
        Library x = new Library(4);
        x.poke(0, 4, 77);
        x.fuse(0);
        Check.due("not cut yet", x.told(5), 0);
        Check.due("keep", Check.keep(x, 1, 1, 1, 1), ContentLibrary.CUT);
        Check.due("cut", x.told(5), 1);
        Check.due("no byte is written", x.byteAt(0, 4), 77);
    }

    /** "NONE: never" */
    private static void noneTakesAFuseAway() {
        Library x = new Library(4);
        x.fuse(0);
        Check.due("what it was", x.fuse(ContentLibrary.NONE), 0);
        Check.due("keep", Check.keep(x, 1, 1, 1, 1), 0);
        Check.due("drop", x.drop(0), 2);
        Check.due("told", x.told(6), ContentLibrary.NONE);
    }

    /** "bytes to its end then": one, and none. */
    private static void aFuseIsSetAnewBeforeItsEnd() {
        Library x = new Library(6);
        x.fuse(131);
        Check.keep(x, 1, 1, 1, 1);
        Check.due("a byte is left", x.fuse(130), 1);
        Check.due("keep", Check.keep(x, 1, 1, 2, 1), 1);
        Check.due("none is left", x.fuse(129), 0);
        Check.due("keep", Check.keep(x, 1, 1, 3, 1), ContentLibrary.CUT);
    }

    /** Two calls that write use up one fuse. */
    private static void aFuseGoesOnOverCalls() {
        Library x = new Library(6);
        x.fuse(130 + 128 + 64);
        Check.due("keep", Check.keep(x, 1, 1, 1, 1), 0);
        Check.due("told", x.told(6), 192);
        Check.due("drop", x.drop(0), 2);
        Check.due("told", x.told(6), 64);
        x.poke(5, 5, 5);
        Check.due("sweep", x.sweep(), 1);
        Check.due("told", x.told(6), 0);
        Check.due("keep", Check.keep(x, 1, 1, 1, 1), ContentLibrary.CUT);
    }

    /** "the library is CUT: nothing is there but the blocks" */
    private static void onlyTheBlocksAreThereWhenCut() {
        Library x = prepared();
        int picture = Check.make(x, 3, 3, 1, 1);
        x.near(picture, 64);
        x.picture(8, 8);
        x.fuse(70);
        Check.due("keep", x.keep(picture), ContentLibrary.CUT);
        Check.dueTold(x, "cut", 12, 0, 0, 0, 0, 1, 0);
        Check.due("a byte of the first block", x.byteAt(0, 4), 1);
        Check.due("opened", x.reopen(), 2);
        Check.dueTold(x, "opened", 12, 7, 2, 0, 0, 0, -1);
    }

    /** A cut in free blocks leaves what was committed. */
    private static void aCutAtAnyByteOfSweeping() {
        for (int bytes = 0; bytes < 64; bytes++) {
            Library x = prepared();
            x.fuse(bytes);
            Check.due("sweep with a fuse of " + bytes, x.sweep(), ContentLibrary.CUT);
            Check.due("opened", x.reopen(), 2);
            Check.due("first", x.sample(0, 1, 1), 4);
            Check.due("second", x.sample(1, 7, 6), 166);
        }
    }
}
