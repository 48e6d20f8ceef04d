import java.util.Arrays;

/** Promise 1 (a new object) and promise 17 (told). */
public final class NewObjectTest {
    public static void main(String[] args) {
        blocksCountAsTheNearest();
        aNewObjectIsEmpty();
        toldFollowsWhatHappens();
        toldOfACutLibrary();
        otherWhatsAreNone();
        objectsAreApart();
        aBlockHas64Bytes();
        nothingIsThereAtFirst();
        thereIsNoFuseAtFirst();
        toldWhenAllIsFull();
        toldOfAFuse();
        otherWhatsAreNoneWhenCut();
        allOf512CallsAnswer();
        Check.finish();
    }

    /** "1 .. 40 (another number counts as the nearest of these)" */
    private static void blocksCountAsTheNearest() {
        int[][] cases = {{Integer.MIN_VALUE, 1}, {-1, 1}, {0, 1}, {1, 1}, {2, 2}, {39, 39}, {40, 40}, {41, 40},
            {Integer.MAX_VALUE, 40}};
        for (int[] c : cases) {
            Library x = new Library(c[0]);
            Check.dueTold(x, "made with " + c[0], c[1], c[1], 0, 0, 0, 0, -1);
            Check.due("the last block's last byte", x.byteAt(c[1] - 1, 63), 0);
            Check.dueThrow("the block behind the last", Check.INDEX, () -> x.byteAt(c[1], 0));
        }
    }

    /** "all their bytes 0: no picture is there or being made" */
    private static void aNewObjectIsEmpty() {
        Library x = new Library(40);
        Check.due("bytes that are not 0", Arrays.stream(Look.bytes(x)).filter(b -> b != 0).count(), 0);
        for (int i = -1; i <= 16; i++) {
            int number = i;
            Check.dueThrow("digest(" + i + ", 0)", Check.INDEX, () -> x.digest(number, 0));
            Check.dueThrow("samples(" + i + ", ..)", Check.INDEX, () -> x.samples(number, 1, 0, 0));
        }
        Check.dueThrow("found(0, 0)", Check.INDEX, () -> x.found(0, 0));
        Check.due("fuse(NONE)", x.fuse(ContentLibrary.NONE), ContentLibrary.NONE);
        Check.due("NONE", ContentLibrary.NONE, -1);
        Check.due("CUT", ContentLibrary.CUT, -2);
    }

    private static void toldFollowsWhatHappens() {
        Library x = new Library(10);
        Check.keep(x, 2, 2, 1, 1);
        Check.keep(x, 8, 8, 1, 1);
        Check.dueTold(x, "two kept", 10, 5, 2, 0, 0, 0, -1);
        int picture = Check.make(x, 3, 3, 9, 9);
        x.picture(1, 1);
        x.near(picture, 64);
        x.fuse(1000);
        Check.dueTold(x, "two made, two found", 10, 5, 2, 2, 2, 0, 1000);
        x.keep(picture);
        Check.dueTold(x, "one kept more", 10, 3, 3, 1, 2, 0, 1000 - 2 * 65);
        x.drop(1);
        Check.dueTold(x, "one dropped", 10, 6, 2, 1, 2, 0, 1000 - 2 * 65 - 3 * 64);
        x.reopen();
        Check.dueTold(x, "reopened", 10, 6, 2, 0, 0, 0, -1);
    }

    /** "(1 to 4 are 0 when it is cut.)" */
    private static void toldOfACutLibrary() {
        Library x = new Library(10);
        Check.keep(x, 2, 2, 1, 1);
        int picture = Check.make(x, 3, 3, 9, 9);
        x.near(picture, 64);
        x.fuse(7);
        Check.due("keep", x.keep(picture), ContentLibrary.CUT);
        Check.dueTold(x, "cut", 10, 0, 0, 0, 0, 1, 0, -1);
        x.reopen();
        Check.dueTold(x, "opened behind the cut", 10, 8, 1, 0, 0, 0, -1, -1);
    }

    /** "NONE for another what" */
    private static void otherWhatsAreNone() {
        Library x = new Library(3);
        for (int what : new int[] {Integer.MIN_VALUE, -2, -1, 7, 8, Integer.MAX_VALUE}) {
            Check.due("told(" + what + ")", x.told(what), ContentLibrary.NONE);
        }
    }

    private static void objectsAreApart() {
        Library x = new Library(5);
        Library y = new Library(5);
        String before = Look.seen(y);
        Check.keep(x, 2, 2, 1, 1);
        Check.make(x, 2, 2, 1, 1);
        x.fuse(3);
        Check.dueSame("another object", before, Look.seen(y));
    }

    /** "of 64 bytes each, at first 0" */
    private static void aBlockHas64Bytes() {
        for (int blocks : new int[] {1, 40}) {
            Library x = new Library(blocks);
            for (int block = 0; block < blocks; block++) {
                int last = block;
                Check.due("the last byte of block " + last, x.byteAt(last, 63), 0);
                Check.dueThrow("a byte behind it", Check.INDEX, () -> x.byteAt(last, 64));
            }
        }
    }

    /** "no picture is there or being made" */
    private static void nothingIsThereAtFirst() {
        for (int blocks : new int[] {1, 40}) {
            Library x = new Library(blocks);
            Check.due("nothing bad", x.badAt(), ContentLibrary.NONE);
            Check.due("nothing to sweep", x.sweep(), 0);
            Check.due("nothing to open", x.reopen(), 0);
            Check.due("the first picture's number", x.picture(1, 1), 0);
            Check.due("it has no samples", x.samples(0, 1, 5, 0), 1);
            Check.due("none is near", x.near(0, 64), 0);
        }
        Library x = new Library(2);
        Check.due("the first number", Check.keep(x, 1, 1, 5, 0), 0);
    }

    /** "and there is no fuse": all may be written, and again. */
    private static void thereIsNoFuseAtFirst() {
        Library x = new Library(40);
        Check.due("told", x.told(6), ContentLibrary.NONE);
        for (int round = 0; round < 4; round++) {
            for (int i = 0; i < 13; i++) {
                Check.due("keep", Check.keep(x, 8, 8, i, 1), i);
            }
            for (int i = 0; i < 13; i++) {
                Check.due("drop", x.drop(i), 3);
            }
        }
        Check.due("told", x.told(6), ContentLibrary.NONE);
    }

    /** Eight being made, sixteen there, sixteen found, and no block free. */
    private static void toldWhenAllIsFull() {
        Library x = new Library(32);
        for (int i = 0; i < 16; i++) {
            Check.keep(x, 1, 1, i, 0);
        }
        for (int i = 0; i < 8; i++) {
            Check.make(x, 1, 1, i, 0);
        }
        Check.due("near", x.near(7, 64), 16);
        Check.dueTold(x, "full", 32, 0, 16, 8, 16, 0, -1, -1);
    }

    /** "bytes to the fuse's end, NONE without one, 0 when it has ended" */
    private static void toldOfAFuse() {
        Library x = new Library(4);
        Check.due("without one", x.told(6), ContentLibrary.NONE);
        x.fuse(131);
        Check.due("set", x.told(6), 131);
        Check.keep(x, 1, 1, 1, 0);
        Check.due("a byte before its end", x.told(6), 1);
        x.fuse(128);
        x.drop(0);
        Check.due("ended, and not cut", x.told(6), 0);
        Check.due("not cut", x.told(5), 0);
        Check.keep(x, 1, 1, 1, 0);
        Check.due("ended, and cut", x.told(6), 0);
        Check.due("cut", x.told(5), 1);
        x.reopen();
        Check.due("opened", x.told(6), ContentLibrary.NONE);
        Check.due("no more cut", x.told(5), 0);
    }

    /** "NONE for another what" */
    private static void otherWhatsAreNoneWhenCut() {
        Library x = new Library(3);
        x.fuse(0);
        Check.keep(x, 1, 1, 1, 0);
        for (int what : new int[] {Integer.MIN_VALUE, -2, -1, 7, 8, Integer.MAX_VALUE}) {
            Check.due("cut: told(" + what + ")", x.told(what), ContentLibrary.NONE);
        }
    }

    /** "An object is used for at most 512 calls after it has been made": up to the last of them all is as told. */
    private static void allOf512CallsAnswer() {
        ContentLibrary x = new ContentLibrary(40);
        for (int i = 0; i < 127; i++) {
            Check.due("picture", x.picture(8, 8), 0);
            Check.due("samples", x.samples(0, 64, i, 1), 64);
            Check.due("keep", x.keep(0), 0);
            Check.due("drop", x.drop(0), 3);
        }
        Check.due("call 509", x.picture(1, 1), 0);
        Check.due("call 510", x.samples(0, 1, 7, 0), 1);
        Check.due("call 511", x.keep(0), 0);
        Check.due("call 512", x.sample(0, 0, 0), 7);
    }
}
