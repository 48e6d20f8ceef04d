import java.util.Arrays;

/** Promise 10 (drop) and promise 11 (sweep). */
public final class DropSweepTest {
    public static void main(String[] args) {
        dropWipesTheBlocks();
        dropWipesWhatWasPokedToo();
        theMarkIsWipedFirst();
        sweepWipesFreeBlocks();
        sweepGoesInOrder();
        whatIsRefused();
        Check.finish();
    }

    private static void dropWipesTheBlocks() {
        ContentLibrary x = new ContentLibrary(10);
        Check.keep(x, 1, 1, 1, 1);
        Check.keep(x, 8, 8, 1, 1);
        Check.keep(x, 1, 1, 2, 1);
        x.fuse(5000);
        Check.due("drop of two record blocks", x.drop(1), 3);
        Check.due("bytes written", x.fuse(-1), 5000 - 3 * 64);
        for (int block = 2; block < 5; block++) {
            Check.dueBlock(x, "dropped", block, new int[64]);
        }
        Check.due("free", x.told(1), 6);
        Check.due("numbers", x.told(2), 2);
        Check.dueThrow("it is not there", Check.INDEX, () -> x.sample(1, 0, 0));
        Check.due("drop of one record block", x.drop(0), 2);
        Check.due("what was not dropped", x.sample(2, 0, 0), 2);
        Check.due("opened again", x.reopen(), 1);
        Check.due("what was not dropped", x.sample(2, 0, 0), 2);
    }

    private static void dropWipesWhatWasPokedToo() {
        ContentLibrary x = new ContentLibrary(4);
        Check.keep(x, 1, 1, 1, 1);
        Check.forge(x, 0, new int[64]);
        Check.forge(x, 1, Check.block(1, 3, 9, 0, 1, 2));
        x.fuse(5000);
        Check.due("drop", x.drop(0), 2);
        Check.due("bytes written", x.fuse(-1), 5000 - 2 * 64);
        Check.dueSame("blocks", Arrays.toString(new int[256]), Arrays.toString(Check.allBytes(x)));
    }

    private static void theMarkIsWipedFirst() {
        for (int bytes = 0; bytes <= 3 * 64; bytes++) {
            ContentLibrary x = new ContentLibrary(6);
            Check.keep(x, 1, 1, 1, 1);
            Check.keep(x, 8, 8, 1, 1);
            int[] wanted = Check.allBytes(x);
            int[] blocks = {4, 2, 3};
            for (int i = 0; i < bytes; i++) {
                wanted[blocks[i / 64] * 64 + nthWiped(i % 64)] = 0;
            }
            x.fuse(bytes);
            Check.due("drop with a fuse of " + bytes, x.drop(1), bytes < 192 ? ContentLibrary.CUT : 3);
            Check.due("cut", x.told(5), bytes < 192 ? 1 : 0);
            Check.dueSame("after " + bytes, Arrays.toString(wanted), Arrays.toString(Check.allBytes(x)));
            Check.due("opened again", x.reopen(), bytes == 0 ? 2 : 1);
        }
    }

    private static int nthWiped(int n) {
        return n == 0 ? 4 : n <= 4 ? n - 1 : n;
    }

    private static void sweepWipesFreeBlocks() {
        ContentLibrary x = new ContentLibrary(8);
        Check.keep(x, 8, 8, 1, 1);
        Check.due("nothing to sweep", x.sweep(), 0);
        int[] before = Check.allBytes(x);
        x.poke(3, 0, 1);
        x.poke(5, 63, 128);
        Check.forge(x, 6, Check.block(6, 1, 3, 0, 3, 1, 1, 9));
        x.poke(0, 63, 9);
        before[63] ^= 9;
        x.fuse(1000);
        Check.due("three to sweep", x.sweep(), 3);
        Check.due("bytes written", x.fuse(-1), 1000 - 3 * 64);
        Check.dueSame("swept", Arrays.toString(before), Arrays.toString(Check.allBytes(x)));
        x.reopen();
        Check.due("blocks of what is no more there", x.sweep(), 3);
        Check.dueSame("all swept", Arrays.toString(new int[512]), Arrays.toString(Check.allBytes(x)));
    }

    private static void sweepGoesInOrder() {
        for (int bytes = 0; bytes <= 128; bytes++) {
            ContentLibrary x = new ContentLibrary(5);
            for (int i = 0; i < 64; i++) {
                x.poke(1, i, 1 + i);
                x.poke(4, i, 100 + i);
            }
            int[] wanted = Check.allBytes(x);
            for (int i = 0; i < bytes; i++) {
                wanted[(i < 64 ? 1 : 4) * 64 + nthWiped(i % 64)] = 0;
            }
            x.fuse(bytes);
            Check.due("sweep with a fuse of " + bytes, x.sweep(), bytes < 128 ? ContentLibrary.CUT : 2);
            Check.dueSame("after " + bytes, Arrays.toString(wanted), Arrays.toString(Check.allBytes(x)));
        }
    }

    private static void whatIsRefused() {
        ContentLibrary x = new ContentLibrary(8);
        Check.keep(x, 2, 2, 1, 1);
        for (int number : new int[] {Integer.MIN_VALUE, -1, 1, 15, 16, Integer.MAX_VALUE}) {
            Check.dueRefusal(x, "drop(" + number + ")", Check.INDEX, () -> x.drop(number));
        }
        x.fuse(0);
        Check.due("nothing to sweep, nothing to write", x.sweep(), 0);
        x.drop(0);
        Check.dueRefusal(x, "drop", Check.STATE, () -> x.drop(0));
        Check.dueRefusal(x, "drop of none", Check.STATE, () -> x.drop(-1));
        Check.dueRefusal(x, "sweep", Check.STATE, () -> x.sweep());
    }
}
