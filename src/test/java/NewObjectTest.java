import java.util.Arrays;

/** Promise 1 (a new object) and promise 17 (told). */
public final class NewObjectTest {
    public static void main(String[] args) {
        blocksCountAsTheNearest();
        aNewObjectIsEmpty();
        toldFollowsWhatHappens();
        toldOfACutLibrary();
        otherWhatsAreNone();
        objectsAreApart();
        Check.finish();
    }

    private static void blocksCountAsTheNearest() {
        int[][] cases = {{Integer.MIN_VALUE, 1}, {-1, 1}, {0, 1}, {1, 1}, {2, 2}, {39, 39}, {40, 40}, {41, 40},
            {Integer.MAX_VALUE, 40}};
        for (int[] c : cases) {
            ContentLibrary x = new ContentLibrary(c[0]);
            Check.dueTold(x, "made with " + c[0], c[1], c[1], 0, 0, 0, 0, -1);
            Check.due("the last block's last byte", x.byteAt(c[1] - 1, 63), 0);
            Check.dueThrow("the block behind the last", Check.INDEX, () -> x.byteAt(c[1], 0));
        }
    }

    private static void aNewObjectIsEmpty() {
        ContentLibrary x = new ContentLibrary(40);
        Check.due("bytes that are not 0", Arrays.stream(Check.allBytes(x)).filter(b -> b != 0).count(), 0);
        for (int i = -1; i <= 16; i++) {
            int number = i;
            Check.dueThrow("digest(" + i + ", 0)", Check.INDEX, () -> x.digest(number, 0));
            Check.dueThrow("samples(" + i + ", ..)", Check.INDEX, () -> x.samples(number, 1, 0, 0));
        }
        Check.dueThrow("found(0, 0)", Check.INDEX, () -> x.found(0, 0));
        Check.due("fuse(NONE)", x.fuse(ContentLibrary.NONE), ContentLibrary.NONE);
        Check.due("NONE", ContentLibrary.NONE, -1);
        Check.due("CUT", ContentLibrary.CUT, -2);
    }

    private static void toldFollowsWhatHappens() {
        ContentLibrary x = new ContentLibrary(10);
        Check.keep(x, 2, 2, 1, 1);
        Check.keep(x, 8, 8, 1, 1);
        Check.dueTold(x, "two kept", 10, 5, 2, 0, 0, 0, -1);
        int picture = Check.make(x, 3, 3, 9, 9);
        x.picture(1, 1);
        x.near(picture, 64);
        x.fuse(1000);
        Check.dueTold(x, "two made, two found", 10, 5, 2, 2, 2, 0, 1000);
        x.keep(picture);
        Check.dueTold(x, "one kept more", 10, 3, 3, 1, 2, 0, 1000 - 2 * 65);
        x.drop(1);
        Check.dueTold(x, "one dropped", 10, 6, 2, 1, 2, 0, 1000 - 2 * 65 - 3 * 64);
        x.reopen();
        Check.dueTold(x, "reopened", 10, 6, 2, 0, 0, 0, -1);
    }

    private static void toldOfACutLibrary() {
        ContentLibrary x = new ContentLibrary(10);
        Check.keep(x, 2, 2, 1, 1);
        int picture = Check.make(x, 3, 3, 9, 9);
        x.near(picture, 64);
        x.fuse(7);
        Check.due("keep", x.keep(picture), ContentLibrary.CUT);
        Check.dueTold(x, "cut", 10, 0, 0, 0, 0, 1, 0, -1);
        x.reopen();
        Check.dueTold(x, "opened behind the cut", 10, 8, 1, 0, 0, 0, -1, -1);
    }

    private static void otherWhatsAreNone() {
        ContentLibrary x = new ContentLibrary(3);
        for (int what : new int[] {Integer.MIN_VALUE, -2, -1, 7, 8, Integer.MAX_VALUE}) {
            Check.due("told(" + what + ")", x.told(what), ContentLibrary.NONE);
        }
    }

    private static void objectsAreApart() {
        ContentLibrary x = new ContentLibrary(5);
        ContentLibrary y = new ContentLibrary(5);
        String before = Check.seen(y);
        Check.keep(x, 2, 2, 1, 1);
        Check.make(x, 2, 2, 1, 1);
        x.fuse(3);
        Check.dueSame("another object", before, Check.seen(y));
    }
}
