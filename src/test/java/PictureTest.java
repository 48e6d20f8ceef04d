/** Promise 2 (picture) and promise 3 (samples). */
public final class PictureTest {
    public static void main(String[] args) {
        numbersAreTheLeastFree();
        sizesAreOneToEight();
        eightAreTheMost();
        samplesComeRowByRow();
        samplesStopAtWhole();
        samplesAreRestsBy256();
        samplesRefuse();
        nothingWhenCut();
        Check.finish();
    }

    private static void numbersAreTheLeastFree() {
        ContentLibrary x = new ContentLibrary(40);
        for (int i = 0; i < 8; i++) {
            Check.due("picture " + i, Check.make(x, 1, 1, 10 * i, 0), i);
        }
        x.keep(5);
        x.keep(2);
        Check.due("the least free", x.picture(3, 3), 2);
        Check.due("the next free", x.picture(3, 3), 5);
        Check.due("a new one has no samples", x.samples(2, 1, 0, 0), 1);
    }

    private static void sizesAreOneToEight() {
        ContentLibrary x = new ContentLibrary(5);
        for (int side : new int[] {Integer.MIN_VALUE, -1, 0, 9, 256, Integer.MAX_VALUE}) {
            Check.dueRefusal(x, "picture(" + side + ", 1)", Check.ARGUMENT, () -> x.picture(side, 1));
            Check.dueRefusal(x, "picture(1, " + side + ")", Check.ARGUMENT, () -> x.picture(1, side));
        }
        for (int side = 1; side <= 8; side++) {
            ContentLibrary y = new ContentLibrary(5);
            Check.due("picture", y.picture(side, 9 - side), 0);
            Check.due("its samples", y.samples(0, 1000, 0, 0), side * (9 - side));
        }
    }

    private static void eightAreTheMost() {
        ContentLibrary x = new ContentLibrary(5);
        for (int i = 0; i < 8; i++) {
            x.picture(8, 8);
        }
        Check.dueRefusal(x, "a ninth", Check.UNSUPPORTED, () -> x.picture(1, 1));
        Check.dueRefusal(x, "a ninth of no size", Check.ARGUMENT, () -> x.picture(0, 1));
    }

    private static void samplesComeRowByRow() {
        ContentLibrary x = new ContentLibrary(5);
        x.picture(3, 2);
        Check.due("two come", x.samples(0, 2, 10, 5), 2);
        Check.due("three more", x.samples(0, 3, 100, -1), 5);
        Check.due("the last", x.samples(0, 1, 7, 9), 6);
        x.keep(0);
        int[] wanted = {10, 15, 100, 99, 98, 7};
        for (int i = 0; i < 6; i++) {
            Check.due("sample " + i, x.sample(0, i % 3, i / 3), wanted[i]);
        }
    }

    private static void samplesStopAtWhole() {
        ContentLibrary x = new ContentLibrary(5);
        x.picture(2, 2);
        Check.due("more than it wants", x.samples(0, Integer.MAX_VALUE, 1, 1), 4);
        Check.due("none is wanted", x.samples(0, 1, 99, 1), 4);
        x.keep(0);
        for (int i = 0; i < 4; i++) {
            Check.due("sample " + i, x.sample(0, i % 2, i / 2), 1 + i);
        }
    }

    private static void samplesAreRestsBy256() {
        int[][] cases = {{250, 3}, {-1, -1}, {-300, 7}, {256, 256}, {Integer.MAX_VALUE, 1}, {Integer.MIN_VALUE, -1},
            {5, Integer.MAX_VALUE}, {5, Integer.MIN_VALUE}};
        for (int[] c : cases) {
            ContentLibrary x = new ContentLibrary(5);
            Check.keep(x, 8, 8, c[0], c[1]);
            for (int i = 0; i < 64; i++) {
                long value = Math.floorMod((long) c[0] + (long) i * c[1], 256L);
                Check.due("sample " + i + " from " + c[0] + " by " + c[1], x.sample(0, i % 8, i / 8), value);
            }
        }
    }

    private static void samplesRefuse() {
        ContentLibrary x = new ContentLibrary(5);
        x.picture(2, 2);
        for (int n : new int[] {0, -1, Integer.MIN_VALUE}) {
            Check.dueRefusal(x, "samples(0, " + n + ", 1, 1)", Check.ARGUMENT, () -> x.samples(0, n, 1, 1));
        }
        for (int picture : new int[] {Integer.MIN_VALUE, -1, 1, 7, 8, Integer.MAX_VALUE}) {
            Check.dueRefusal(x, "samples(" + picture + ", ..)", Check.INDEX, () -> x.samples(picture, 1, 1, 1));
            Check.dueRefusal(x, "no picture and no n", Check.INDEX, () -> x.samples(picture, 0, 1, 1));
        }
        Check.due("it still has none", x.samples(0, 1, 1, 1), 1);
    }

    private static void nothingWhenCut() {
        ContentLibrary x = new ContentLibrary(5);
        int picture = Check.make(x, 1, 1, 1, 1);
        x.picture(1, 1);
        x.fuse(0);
        x.keep(picture);
        Check.dueRefusal(x, "picture", Check.STATE, () -> x.picture(1, 1));
        Check.dueRefusal(x, "picture of no size", Check.STATE, () -> x.picture(0, 0));
        Check.dueRefusal(x, "samples", Check.STATE, () -> x.samples(1, 1, 1, 1));
        Check.dueRefusal(x, "samples of none", Check.STATE, () -> x.samples(-1, 0, 1, 1));
        x.reopen();
        Check.dueThrow("the picture is gone", Check.INDEX, () -> x.samples(1, 1, 1, 1));
    }
}
