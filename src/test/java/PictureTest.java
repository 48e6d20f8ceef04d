/** Promise 2 (picture) and promise 3 (samples). */
public final class PictureTest {
    public static void main(String[] args) {
        numbersAreTheLeastFree();
        sizesAreOneToEight();
        eightAreTheMost();
        samplesComeRowByRow();
        samplesStopAtWhole();
        samplesAreRestsBy256();
        samplesRefuse();
        nothingWhenCut();
        everySizeFromOneToEight();
        anEighthAndThenRoomAgain();
        aRefusedPictureTakesNoNumber();
        picturesGoWhenReopened();
        aSampleAtATime();
        exactlyAsManyAsItWants();
        oneMoreThanItWants();
        allThatIsLeft();
        samplesGoToTheirPictureAlone();
        samplesRunOverAt256();
        samplesRunOverAtInts();
        Check.finish();
    }

    /** "at the least number that is free" */
    private static void numbersAreTheLeastFree() {
        Library x = new Library(40);
        for (int i = 0; i < 8; i++) {
            Check.due("picture " + i, Check.make(x, 1, 1, 10 * i, 0), i);
        }
        x.keep(5);
        x.keep(2);
        Check.due("the least free", x.picture(3, 3), 2);
        Check.due("the next free", x.picture(3, 3), 5);
        Check.due("a new one has no samples", x.samples(2, 1, 0, 0), 1);
    }

    /** "IllegalArgument: its sizes." */
    private static void sizesAreOneToEight() {
        Library x = new Library(5);
        for (int side : new int[] {Integer.MIN_VALUE, -1, 0, 9, 256, Integer.MAX_VALUE}) {
            Check.dueRefusal(x, "picture(" + side + ", 1)", Check.ARGUMENT, () -> x.picture(side, 1));
            Check.dueRefusal(x, "picture(1, " + side + ")", Check.ARGUMENT, () -> x.picture(1, side));
        }
        for (int side = 1; side <= 8; side++) {
            Library y = new Library(5);
            Check.due("picture", y.picture(side, 9 - side), 0);
            Check.due("its samples", y.samples(0, 1000, 0, 0), side * (9 - side));
        }
    }

    /** "UnsupportedOperation: there are eight." */
    private static void eightAreTheMost() {
        Library x = new Library(5);
        for (int i = 0; i < 8; i++) {
            x.picture(8, 8);
        }
        Check.dueRefusal(x, "a ninth", Check.UNSUPPORTED, () -> x.picture(1, 1));
        Check.dueRefusal(x, "a ninth of no size", Check.ARGUMENT, () -> x.picture(0, 1));
    }

    private static void samplesComeRowByRow() {
        Library x = new Library(5);
        x.picture(3, 2);
        Check.due("two come", x.samples(0, 2, 10, 5), 2);
        Check.due("three more", x.samples(0, 3, 100, -1), 5);
        Check.due("the last", x.samples(0, 1, 7, 9), 6);
        x.keep(0);
        int[] wanted = {10, 15, 100, 99, 98, 7};
        for (int i = 0; i < 6; i++) {
            Check.due("sample " + i, x.sample(0, i % 3, i / 3), wanted[i]);
        }
    }

    /** "n or as many as it wants": as many as an int can say, and then none. */
    private static void samplesStopAtWhole() {
        Library x = new Library(5);
        x.picture(2, 2);
        Check.due("more than it wants", x.samples(0, Integer.MAX_VALUE, 1, 1), 4);
        Check.due("none is wanted", x.samples(0, 1, 99, 1), 4);
        x.keep(0);
        for (int i = 0; i < 4; i++) {
            Check.due("sample " + i, x.sample(0, i % 2, i / 2), 1 + i);
        }
    }

    private static void samplesAreRestsBy256() {
        int[][] cases = {{250, 3}, {-1, -1}, {-300, 7}, {256, 256}, {Integer.MAX_VALUE, 1}, {Integer.MIN_VALUE, -1},
            {5, Integer.MAX_VALUE}, {5, Integer.MIN_VALUE}};
        for (int[] c : cases) {
            Library x = new Library(5);
            Check.keep(x, 8, 8, c[0], c[1]);
            for (int i = 0; i < 64; i++) {
                long value = Math.floorMod((long) c[0] + (long) i * c[1], 256L);
                Check.due("sample " + i + " from " + c[0] + " by " + c[1], x.sample(0, i % 8, i / 8), value);
            }
        }
    }

    /** "IllegalArgument: n is below 1." */
    private static void samplesRefuse() {
        Library x = new Library(5);
        x.picture(2, 2);
        for (int n : new int[] {0, -1, Integer.MIN_VALUE}) {
            Check.dueRefusal(x, "samples(0, " + n + ", 1, 1)", Check.ARGUMENT, () -> x.samples(0, n, 1, 1));
        }
        for (int picture : new int[] {Integer.MIN_VALUE, -1, 1, 7, 8, Integer.MAX_VALUE}) {
            Check.dueRefusal(x, "samples(" + picture + ", ..)", Check.INDEX, () -> x.samples(picture, 1, 1, 1));
            Check.dueRefusal(x, "no picture and no n", Check.INDEX, () -> x.samples(picture, 0, 1, 1));
        }
        Check.due("it still has none", x.samples(0, 1, 1, 1), 1);
    }

    private static void nothingWhenCut() {
        Library x = new Library(5);
        int picture = Check.make(x, 1, 1, 1, 1);
        x.picture(1, 1);
        x.fuse(0);
        x.keep(picture);
        Check.dueRefusal(x, "picture", Check.STATE, () -> x.picture(1, 1));
        Check.dueRefusal(x, "picture of no size", Check.STATE, () -> x.picture(0, 0));
        Check.dueRefusal(x, "samples", Check.STATE, () -> x.samples(1, 1, 1, 1));
        Check.dueRefusal(x, "samples of none", Check.STATE, () -> x.samples(-1, 0, 1, 1));
        x.reopen();
        Check.dueThrow("the picture is gone", Check.INDEX, () -> x.samples(1, 1, 1, 1));
    }

    /** "a width and a height 1 .. 8" */
    private static void everySizeFromOneToEight() {
        for (int width = 1; width <= 8; width++) {
            for (int height = 1; height <= 8; height++) {
                Library x = new Library(1);
                Check.due("picture", x.picture(width, height), 0);
                Check.due("all its samples", x.samples(0, 65, 0, 0), width * height);
            }
        }
    }

    /** "UnsupportedOperation: there are eight": seven are not, and seven again are not. */
    private static void anEighthAndThenRoomAgain() {
        Library x = new Library(40);
        for (int i = 0; i < 7; i++) {
            Check.make(x, 1, 1, i, 0);
        }
        Check.due("an eighth", Check.make(x, 1, 1, 7, 0), 7);
        Check.dueThrow("a ninth", Check.UNSUPPORTED, () -> x.picture(1, 1));
        x.keep(7);
        Check.due("an eighth again", x.picture(1, 1), 7);
        Check.dueThrow("a ninth again", Check.UNSUPPORTED, () -> x.picture(1, 1));
        x.keep(0);
        Check.due("the least that is free", x.picture(1, 1), 0);
    }

    /** "A call that throws changes nothing." */
    private static void aRefusedPictureTakesNoNumber() {
        Library x = new Library(4);
        Check.dueThrow("no width", Check.ARGUMENT, () -> x.picture(0, 8));
        Check.dueThrow("no height", Check.ARGUMENT, () -> x.picture(8, 9));
        Check.due("none is being made", x.told(3), 0);
        Check.due("the first", x.picture(8, 8), 0);
    }

    /** "pictures being made .. go" */
    private static void picturesGoWhenReopened() {
        Library x = new Library(4);
        for (int i = 0; i < 8; i++) {
            Check.make(x, 2, 2, i, 0);
        }
        x.reopen();
        Check.due("none is being made", x.told(3), 0);
        Check.due("the least number", x.picture(3, 1), 0);
        Check.due("it has no samples", x.samples(0, 1, 0, 0), 1);
    }

    /** n is 1, the least. */
    private static void aSampleAtATime() {
        Library x = new Library(4);
        x.picture(8, 8);
        for (int i = 1; i <= 64; i++) {
            Check.due("sample " + i, x.samples(0, 1, i, 99), i);
        }
        Check.due("it wants no more", x.samples(0, 1, 0, 0), 64);
        x.keep(0);
        for (int i = 0; i < 64; i++) {
            Check.due("sample", x.sample(0, i % 8, i / 8), i + 1);
        }
    }

    /** "n or as many as it wants" */
    private static void exactlyAsManyAsItWants() {
        Library x = new Library(4);
        x.picture(3, 2);
        Check.due("one less", x.samples(0, 5, 1, 1), 5);
        Check.due("the one", x.samples(0, 1, 6, 1), 6);
        Check.due("kept", x.keep(0), 0);
    }

    /** "as many as it wants": the one too many does not come. */
    private static void oneMoreThanItWants() {
        Library x = new Library(4);
        x.picture(3, 2);
        Check.due("one more", x.samples(0, 7, 1, 1), 6);
        Check.due("the last is the sixth", x.keep(0), 0);
        Check.due("sample", x.sample(0, 2, 1), 6);
    }

    /** "as many as it wants": of a picture that has some. */
    private static void allThatIsLeft() {
        Library x = new Library(4);
        x.picture(3, 2);
        Check.due("two", x.samples(0, 2, 1, 1), 2);
        Check.due("all that is left", x.samples(0, Integer.MAX_VALUE, 100, 1), 6);
        x.keep(0);
        Check.due("the third", x.sample(0, 2, 0), 100);
        Check.due("the sixth", x.sample(0, 2, 1), 103);
    }

    /** "0 .. 7": of eight pictures each has its own. */
    private static void samplesGoToTheirPictureAlone() {
        Library x = new Library(40);
        for (int i = 0; i < 8; i++) {
            x.picture(2, 1);
        }
        for (int i = 7; i >= 0; i--) {
            Check.due("first of " + i, x.samples(i, 1, 10 + i, 0), 1);
        }
        for (int i = 0; i < 8; i++) {
            Check.due("second of " + i, x.samples(i, 1, 20 + i, 0), 2);
            Check.due("keep", x.keep(i), i);
            Check.due("first", x.sample(i, 0, 0), 10 + i);
            Check.due("second", x.sample(i, 1, 0), 20 + i);
        }
    }

    /** "as its rest by 256": samples are 0 .. 255, from below 0 and from 256 on. */
    private static void samplesRunOverAt256() {
        int[][] cases = {{0, 0}, {255, 255}, {256, 0}, {257, 1}, {511, 255}, {512, 0}, {-1, 255}, {-255, 1}, {-256, 0},
            {-257, 255}};
        for (int[] c : cases) {
            Library x = new Library(2);
            Check.keep(x, 1, 1, c[0], 0);
            Check.due("v " + c[0], x.sample(0, 0, 0), c[1]);
            Library y = new Library(2);
            Check.keep(y, 2, 1, 0, c[0]);
            Check.due("step " + c[0], y.sample(0, 1, 0), c[1]);
        }
    }

    /** A sum that is no int has a rest by 256, too. */
    private static void samplesRunOverAtInts() {
        Library x = new Library(40);
        Check.keep(x, 3, 1, Integer.MAX_VALUE, Integer.MAX_VALUE);
        dueRow(x, 0, 255, 254, 253);
        Check.keep(x, 3, 1, Integer.MIN_VALUE, Integer.MIN_VALUE);
        dueRow(x, 1, 0, 0, 0);
        Check.keep(x, 3, 1, Integer.MIN_VALUE, -1);
        dueRow(x, 2, 0, 255, 254);
        Check.keep(x, 3, 1, Integer.MAX_VALUE, 2);
        dueRow(x, 3, 255, 1, 3);
    }

    private static void dueRow(Library x, int number, int... wanted) {
        for (int i = 0; i < wanted.length; i++) {
            Check.due("sample " + i + " of " + number, x.sample(number, i, 0), wanted[i]);
        }
    }
}
