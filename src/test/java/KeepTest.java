import java.util.Arrays;

/** Promise 4 (keep), with the blocks that it writes. */
public final class KeepTest {
    public static void main(String[] args) {
        blocksStandAsTold();
        aLongRecordHasTwoBlocks();
        eachDigestOnce();
        theLeastFreeNumberAndBlocks();
        sizesTellPicturesApart();
        staleBlocksOfTheNumberAreWiped();
        whatIsRefused();
        noRoomLeavesThePicture();
        nothingWhenCut();
        Check.finish();
    }

    private static void blocksStandAsTold() {
        ContentLibrary x = new ContentLibrary(4);
        Check.due("keep", Check.keep(x, 3, 2, 250, 3), 0);
        Check.dueBlock(x, "first", 0, Check.block(0, 1, 0, 0, 8, Check.message(3, 2, 250, 3)));
        Check.dueBlock(x, "mark", 1, Check.block(1, 3, 0, 0, 1, 1));
        Check.dueBlock(x, "untouched", 2, new int[64]);
        Check.due("keep", Check.keep(x, 3, 2, 251, 3), 1);
        Check.dueBlock(x, "first", 2, Check.block(2, 1, 1, 0, 8, Check.message(3, 2, 251, 3)));
        Check.dueBlock(x, "mark", 3, Check.block(3, 3, 1, 0, 1, 1));
    }

    private static void aLongRecordHasTwoBlocks() {
        int[][] sizes = {{1, 1, 1}, {6, 8, 1}, {7, 7, 1}, {7, 8, 2}, {8, 7, 2}, {8, 8, 2}};
        for (int[] s : sizes) {
            ContentLibrary x = new ContentLibrary(5);
            Check.keep(x, s[0], s[1], 3, 5);
            int[] message = Check.message(s[0], s[1], 3, 5);
            int inFirst = Math.min(56, message.length);
            int[] first = Arrays.copyOf(message, inFirst);
            Check.dueBlock(x, "first", 0, Check.block(0, 1, 0, 0, inFirst, first));
            if (s[2] == 2) {
                int[] further = Arrays.copyOfRange(message, 56, message.length);
                Check.dueBlock(x, "further", 1, Check.block(1, 2, 0, 1, further.length, further));
            }
            Check.dueBlock(x, "mark", s[2], Check.block(s[2], 3, 0, 0, 1, s[2]));
            Check.due("free", x.told(1), 4 - s[2]);
        }
    }

    private static void eachDigestOnce() {
        ContentLibrary x = new ContentLibrary(40);
        Check.keep(x, 2, 2, 1, 1);
        Check.keep(x, 2, 2, 2, 1);
        int again = Check.make(x, 2, 2, 1, 1);
        x.fuse(0);
        Check.due("kept again without a byte written", x.keep(again), 0);
        Check.due("it is no more being made", x.told(3), 0);
        Check.due("no fuse ended", x.told(5), 0);
        Check.due("numbers", x.told(2), 2);
        Check.due("free blocks", x.told(1), 36);
        Check.dueThrow("the picture is gone", Check.INDEX, () -> x.keep(again));
    }

    private static void theLeastFreeNumberAndBlocks() {
        ContentLibrary x = new ContentLibrary(40);
        for (int i = 0; i < 4; i++) {
            Check.due("keep", Check.keep(x, 1, 1, i, 0), i);
        }
        x.drop(2);
        x.drop(1);
        Check.due("a long one at the least free number", Check.keep(x, 8, 8, 0, 1), 1);
        Check.due("its first block's number", x.byteAt(2, 5), 1);
        Check.due("its further block's kind", x.byteAt(3, 4), 2);
        Check.due("its mark's kind", x.byteAt(4, 4), 3);
        Check.due("the next one", Check.keep(x, 1, 1, 77, 0), 2);
        Check.due("its first block is the first free", x.byteAt(5, 4), 1);
        Check.due("its mark is behind what others have", x.byteAt(8, 4), 3);
        Check.due("all open again", x.reopen(), 4);
    }

    private static void sizesTellPicturesApart() {
        ContentLibrary x = new ContentLibrary(40);
        Check.due("2 by 3", Check.keep(x, 2, 3, 0, 0), 0);
        Check.due("3 by 2", Check.keep(x, 3, 2, 0, 0), 1);
        Check.due("6 by 1", Check.keep(x, 6, 1, 0, 0), 2);
        Check.due("1 by 1 of 0", Check.keep(x, 1, 1, 0, 0), 3);
    }

    private static void staleBlocksOfTheNumberAreWiped() {
        ContentLibrary x = new ContentLibrary(12);
        Check.keep(x, 1, 1, 5, 0);
        x.poke(7, 5, 1);
        x.poke(8, 5, 2);
        x.poke(9, 40, 9);
        x.poke(1, 63, 4);
        x.fuse(1000);
        Check.due("keep", Check.keep(x, 1, 1, 6, 0), 1);
        Check.due("one block wiped and two written", x.fuse(-1), 1000 - 64 - 130);
        Check.dueBlock(x, "with the number: wiped", 7, new int[64]);
        Check.due("with another number: left", x.byteAt(8, 5), 2);
        Check.due("with number 0: left", x.byteAt(9, 40), 9);
        Check.due("one in use: left", x.byteAt(1, 63), 4);
        x.drop(0);
        x.fuse(1000);
        Check.due("keep at 0", Check.keep(x, 1, 1, 7, 0), 0);
        Check.due("one block of number 0 wiped", x.fuse(-1), 1000 - 64 - 130);
        Check.dueBlock(x, "with number 0: wiped", 9, new int[64]);
    }

    private static void whatIsRefused() {
        ContentLibrary x = new ContentLibrary(5);
        x.picture(2, 2);
        Check.dueRefusal(x, "keep without samples", Check.ARGUMENT, () -> x.keep(0));
        x.samples(0, 3, 0, 1);
        Check.dueRefusal(x, "keep of one not whole", Check.ARGUMENT, () -> x.keep(0));
        for (int picture : new int[] {Integer.MIN_VALUE, -1, 1, 8, Integer.MAX_VALUE}) {
            Check.dueRefusal(x, "keep(" + picture + ")", Check.INDEX, () -> x.keep(picture));
        }
        x.samples(0, 1, 0, 0);
        Check.due("keep of one whole", x.keep(0), 0);
    }

    private static void noRoomLeavesThePicture() {
        ContentLibrary x = new ContentLibrary(4);
        Check.keep(x, 1, 1, 0, 0);
        int large = Check.make(x, 8, 8, 0, 1);
        Check.dueRefusal(x, "two blocks for three", Check.UNSUPPORTED, () -> x.keep(large));
        int half = x.picture(2, 2);
        Check.dueRefusal(x, "not whole before no room", Check.ARGUMENT, () -> x.keep(half));
        Check.due("two blocks for two", Check.keep(x, 1, 1, 1, 0), 1);
        int small = Check.make(x, 1, 1, 2, 0);
        Check.dueRefusal(x, "no blocks", Check.UNSUPPORTED, () -> x.keep(small));
        Check.due("one that is there needs no room", Check.keep(x, 1, 1, 1, 0), 1);
        x.drop(0);
        x.drop(1);
        Check.due("it stayed", x.keep(large), 0);
        sixteenAreTheMost();
    }

    private static void sixteenAreTheMost() {
        ContentLibrary x = new ContentLibrary(40);
        for (int i = 0; i < 16; i++) {
            Check.due("keep", Check.keep(x, 1, 1, i, 0), i);
        }
        int more = Check.make(x, 1, 1, 100, 0);
        Check.dueRefusal(x, "a seventeenth", Check.UNSUPPORTED, () -> x.keep(more));
        Check.due("one of the sixteen", Check.keep(x, 1, 1, 15, 0), 15);
        x.drop(11);
        Check.due("it stayed", x.keep(more), 11);
    }

    private static void nothingWhenCut() {
        ContentLibrary x = new ContentLibrary(5);
        x.fuse(129);
        Check.due("the mark's kind is not written", Check.keep(x, 1, 1, 0, 0), ContentLibrary.CUT);
        Check.dueRefusal(x, "keep", Check.STATE, () -> x.keep(0));
        Check.dueRefusal(x, "keep of none", Check.STATE, () -> x.keep(-1));
    }
}
