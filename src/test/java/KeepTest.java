import java.util.Arrays;

/** Promise 4 (keep), with the blocks that it writes. */
public final class KeepTest {
    public static void main(String[] args) {
        blocksStandAsTold();
        aLongRecordHasTwoBlocks();
        eachDigestOnce();
        theLeastFreeNumberAndBlocks();
        sizesTellPicturesApart();
        staleBlocksOfTheNumberAreWiped();
        whatIsRefused();
        noRoomLeavesThePicture();
        nothingWhenCut();
        wholeAtTheLastSample();
        theLeastRoomForARecord();
        everyBlockInUse();
        aBlockTooFewAtTheEnd();
        aNumberThatIsFreeAgain();
        staleBlocksAreWipedInOrder();
        staleBlocksThatAreWrittenOver();
        blankBlocksAreNotWiped();
        untoldBytesAre0();
        sumsThatAreKnown();
        placesWithGapsRise();
        aRefusedKeepIsNoCut();
        Check.finish();
    }

    private static void blocksStandAsTold() {
        Library x = new Library(4);
        Check.due("keep", Check.keep(x, 3, 2, 250, 3), 0);
        Check.dueBlock(x, "first", 0, Check.block(0, 1, 0, 0, 8, Check.message(3, 2, 250, 3)));
        Check.dueBlock(x, "mark", 1, Check.block(1, 3, 0, 0, 1, 1));
        Check.dueBlock(x, "untouched", 2, new int[64]);
        Check.due("keep", Check.keep(x, 3, 2, 251, 3), 1);
        Check.dueBlock(x, "first", 2, Check.block(2, 1, 1, 0, 8, Check.message(3, 2, 251, 3)));
        Check.dueBlock(x, "mark", 3, Check.block(3, 3, 1, 0, 1, 1));
    }

    /** "56 to each block but the last": the longest message in one block has 51 bytes, the shortest in two has 58. */
    private static void aLongRecordHasTwoBlocks() {
        int[][] sizes = {{1, 1, 1}, {6, 8, 1}, {7, 7, 1}, {7, 8, 2}, {8, 7, 2}, {8, 8, 2}};
        for (int[] s : sizes) {
            Library x = new Library(5);
            Check.keep(x, s[0], s[1], 3, 5);
            int[] message = Check.message(s[0], s[1], 3, 5);
            int inFirst = Math.min(56, message.length);
            int[] first = Arrays.copyOf(message, inFirst);
            Check.dueBlock(x, "first", 0, Check.block(0, 1, 0, 0, inFirst, first));
            if (s[2] == 2) {
                int[] further = Arrays.copyOfRange(message, 56, message.length);
                Check.dueBlock(x, "further", 1, Check.block(1, 2, 0, 1, further.length, further));
            }
            Check.dueBlock(x, "mark", s[2], Check.block(s[2], 3, 0, 0, 1, s[2]));
            Check.due("free", x.told(1), 4 - s[2]);
        }
    }

    /** "KEEPING a picture whose digest is there already gives the number that this one has" */
    private static void eachDigestOnce() {
        Library x = new Library(40);
        Check.keep(x, 2, 2, 1, 1);
        Check.keep(x, 2, 2, 2, 1);
        int again = Check.make(x, 2, 2, 1, 1);
        x.fuse(0);
        Check.due("kept again without a byte written", x.keep(again), 0);
        Check.due("it is no more being made", x.told(3), 0);
        Check.due("no fuse ended", x.told(5), 0);
        Check.due("numbers", x.told(2), 2);
        Check.due("free blocks", x.told(1), 36);
        Check.dueThrow("the picture is gone", Check.INDEX, () -> x.keep(again));
    }

    private static void theLeastFreeNumberAndBlocks() {
        Library x = new Library(40);
        for (int i = 0; i < 4; i++) {
            Check.due("keep", Check.keep(x, 1, 1, i, 0), i);
        }
        x.drop(2);
        x.drop(1);
        Check.due("a long one at the least free number", Check.keep(x, 8, 8, 0, 1), 1);
        Check.due("its first block's number", x.byteAt(2, 5), 1);
        Check.due("its further block's kind", x.byteAt(3, 4), 2);
        Check.due("its mark's kind", x.byteAt(4, 4), 3);
        Check.due("the next one", Check.keep(x, 1, 1, 77, 0), 2);
        Check.due("its first block is the first free", x.byteAt(5, 4), 1);
        Check.due("its mark is behind what others have", x.byteAt(8, 4), 3);
        Check.due("all open again", x.reopen(), 4);
    }

    /** "the message's bytes are its width, its height, its samples" */
    private static void sizesTellPicturesApart() {
        Library x = new Library(40);
        Check.due("2 by 3", Check.keep(x, 2, 3, 0, 0), 0);
        Check.due("3 by 2", Check.keep(x, 3, 2, 0, 0), 1);
        Check.due("6 by 1", Check.keep(x, 6, 1, 0, 0), 2);
        Check.due("1 by 1 of 0", Check.keep(x, 1, 1, 0, 0), 3);
    }

    /** "whose byte for the number .. is that one, whatever else is in them": free ones alone. */
    private static void staleBlocksOfTheNumberAreWiped() {
        Library x = new Library(12);
        Check.keep(x, 1, 1, 5, 0);
        x.poke(7, 5, 1);
        x.poke(8, 5, 2);
        x.poke(9, 40, 9);
        x.poke(1, 63, 4);
        x.fuse(1000);
        Check.due("keep", Check.keep(x, 1, 1, 6, 0), 1);
        Check.due("one block wiped and two written", x.fuse(-1), 1000 - 64 - 130);
        Check.dueBlock(x, "with the number: wiped", 7, new int[64]);
        Check.due("with another number: left", x.byteAt(8, 5), 2);
        Check.due("with number 0: left", x.byteAt(9, 40), 9);
        Check.due("one in use: left", x.byteAt(1, 63), 4);
        x.drop(0);
        x.fuse(1000);
        Check.due("keep at 0", Check.keep(x, 1, 1, 7, 0), 0);
        Check.due("one block of number 0 wiped", x.fuse(-1), 1000 - 64 - 130);
        Check.dueBlock(x, "with number 0: wiped", 9, new int[64]);
    }

    private static void whatIsRefused() {
        Library x = new Library(5);
        x.picture(2, 2);
        Check.dueRefusal(x, "keep without samples", Check.ARGUMENT, () -> x.keep(0));
        x.samples(0, 3, 0, 1);
        Check.dueRefusal(x, "keep of one not whole", Check.ARGUMENT, () -> x.keep(0));
        for (int picture : new int[] {Integer.MIN_VALUE, -1, 1, 8, Integer.MAX_VALUE}) {
            Check.dueRefusal(x, "keep(" + picture + ")", Check.INDEX, () -> x.keep(picture));
        }
        x.samples(0, 1, 0, 0);
        Check.due("keep of one whole", x.keep(0), 0);
    }

    /** "or not so many blocks free (it stays then)" */
    private static void noRoomLeavesThePicture() {
        Library x = new Library(4);
        Check.keep(x, 1, 1, 0, 0);
        int large = Check.make(x, 8, 8, 0, 1);
        Check.dueRefusal(x, "two blocks for three", Check.UNSUPPORTED, () -> x.keep(large));
        int half = x.picture(2, 2);
        Check.dueRefusal(x, "not whole before no room", Check.ARGUMENT, () -> x.keep(half));
        Check.due("two blocks for two", Check.keep(x, 1, 1, 1, 0), 1);
        int small = Check.make(x, 1, 1, 2, 0);
        Check.dueRefusal(x, "no blocks", Check.UNSUPPORTED, () -> x.keep(small));
        Check.due("one that is there needs no room", Check.keep(x, 1, 1, 1, 0), 1);
        x.drop(0);
        x.drop(1);
        Check.due("it stayed", x.keep(large), 0);
        sixteenAreTheMost();
    }

    /** "there are sixteen .. (it stays then)" */
    private static void sixteenAreTheMost() {
        Library x = new Library(40);
        for (int i = 0; i < 16; i++) {
            Check.due("keep", Check.keep(x, 1, 1, i, 0), i);
        }
        int more = Check.make(x, 1, 1, 100, 0);
        Check.dueRefusal(x, "a seventeenth", Check.UNSUPPORTED, () -> x.keep(more));
        Check.due("one of the sixteen", Check.keep(x, 1, 1, 15, 0), 15);
        x.drop(11);
        Check.due("it stayed", x.keep(more), 11);
    }

    /** "CUT, if the fuse ended before its mark was written": a byte too few. */
    private static void nothingWhenCut() {
        Library x = new Library(5);
        x.fuse(129);
        Check.due("the mark's kind is not written", Check.keep(x, 1, 1, 0, 0), ContentLibrary.CUT);
        Check.dueRefusal(x, "keep", Check.STATE, () -> x.keep(0));
        Check.dueRefusal(x, "keep of none", Check.STATE, () -> x.keep(-1));
    }

    /** "one is WHOLE when it has all of them" */
    private static void wholeAtTheLastSample() {
        int[][] sizes = {{1, 1}, {1, 8}, {8, 1}, {7, 7}, {8, 8}};
        for (int[] s : sizes) {
            Library x = new Library(3);
            x.picture(s[0], s[1]);
            for (int i = 0; i < s[0] * s[1]; i++) {
                Check.dueThrow("with " + i + " samples", Check.ARGUMENT, () -> x.keep(0));
                x.samples(0, 1, i, 0);
            }
            Check.due("with all of them", x.keep(0), 0);
        }
    }

    /** "or not so many blocks free": one for each 56 bytes of the message, and one for the mark. */
    private static void theLeastRoomForARecord() {
        int[][] cases = {{1, 1, 2}, {7, 7, 2}, {6, 8, 2}, {8, 6, 2}, {7, 8, 3}, {8, 7, 3}, {8, 8, 3}};
        for (int[] c : cases) {
            for (int blocks = 1; blocks < c[2]; blocks++) {
                Library small = new Library(blocks);
                int picture = Check.make(small, c[0], c[1], 1, 1);
                Check.dueRefusal(small, "in " + blocks, Check.UNSUPPORTED, () -> small.keep(picture));
                Check.due("it stays", small.samples(picture, 1, 0, 0), c[0] * c[1]);
            }
            Library x = new Library(c[2]);
            Check.due("in " + c[2], Check.keep(x, c[0], c[1], 1, 1), 0);
            Check.due("all are used", x.told(1), 0);
        }
    }

    /** "the least number that is free, 0 .. 15": sixteen in thirty-two blocks, and no more. */
    private static void everyBlockInUse() {
        Library x = new Library(32);
        for (int i = 0; i < 16; i++) {
            Check.due("free", x.told(1), 32 - 2 * i);
            Check.due("keep", Check.keep(x, 1, 1, i, 0), i);
            Check.due("its mark's number", x.byteAt(2 * i + 1, 5), i);
        }
        Check.due("free", x.told(1), 0);
        Check.due("opened", x.reopen(), 16);
    }

    /** Thirteen records of two blocks leave one block of forty: too few for any. */
    private static void aBlockTooFewAtTheEnd() {
        Library x = new Library(40);
        for (int i = 0; i < 13; i++) {
            Check.due("keep", Check.keep(x, 8, 8, i, 1), i);
        }
        Check.due("free", x.told(1), 1);
        int picture = Check.make(x, 1, 1, 1, 1);
        Check.dueRefusal(x, "one block for two", Check.UNSUPPORTED, () -> x.keep(picture));
        Check.due("one that is there", Check.keep(x, 8, 8, 12, 1), 12);
        Check.due("drop", x.drop(12), 3);
        Check.due("room again", x.keep(picture), 12);
        Check.due("free", x.told(1), 2);
    }

    /** "it gets the least number that is free" */
    private static void aNumberThatIsFreeAgain() {
        Library x = new Library(40);
        for (int i = 0; i < 16; i++) {
            Check.keep(x, 1, 1, i, 0);
        }
        for (int number : new int[] {15, 0, 8}) {
            x.drop(number);
            Check.due("the only one", Check.keep(x, 1, 1, 100 + number, 0), number);
            Check.due("its sample", x.sample(number, 0, 0), 100 + number);
        }
    }

    /** "are wiped (as in DROPPING), in order": three old blocks, and a fuse that ends in each. */
    private static void staleBlocksAreWipedInOrder() {
        for (int bytes = 0; bytes <= 3 * 64; bytes++) {
            Library x = new Library(9);
            int[] places = {2, 5, 8};
            for (int place : places) {
                for (int i = 0; i < 64; i++) {
                    x.poke(place, i, i == 5 ? 0 : 100 + i);
                }
            }
            int[] wanted = Look.bytes(x);
            for (int i = 0; i < bytes; i++) {
                int n = i % 64;
                wanted[places[i / 64] * 64 + (n == 0 ? 4 : n <= 4 ? n - 1 : n)] = 0;
            }
            x.fuse(bytes);
            Check.due("keep with a fuse of " + bytes, Check.keep(x, 1, 1, 1, 0), ContentLibrary.CUT);
            Check.dueSame("after " + bytes, Arrays.toString(wanted), Arrays.toString(Look.bytes(x)));
        }
    }

    /** Old blocks with the number are wiped first, also where the record comes then: 64 bytes, then 65. */
    private static void staleBlocksThatAreWrittenOver() {
        Library x = new Library(2);
        Check.forge(x, 0, Check.block(0, 2, 0, 1, 56, 9, 9, 9));
        Check.forge(x, 1, Check.block(1, 3, 0, 0, 1, 2));
        x.fuse(2 * 64 + 2 * 65);
        Check.due("keep", Check.keep(x, 1, 1, 1, 0), 0);
        Check.due("all bytes of the fuse", x.told(6), 0);
        Check.dueBlock(x, "first", 0, Check.block(0, 1, 0, 0, 3, 1, 1, 1));
        Check.dueBlock(x, "mark", 1, Check.block(1, 3, 0, 0, 1, 1));
    }

    /** "that are not all 0": a blank block has the number 0, and no byte of it is written. */
    private static void blankBlocksAreNotWiped() {
        Library x = new Library(40);
        x.fuse(130);
        Check.due("keep at 0", Check.keep(x, 1, 1, 1, 0), 0);
        Check.due("two blocks written, none wiped", x.told(6), 0);
        for (int i = 0; i < 64; i++) {
            Library y = new Library(40);
            boolean asked = i != 5;
            y.poke(39, i, 1);
            y.fuse(64 + 130);
            Check.due("keep at 0", Check.keep(y, 1, 1, 1, 0), 0);
            Check.due("wiped for byte " + i + ", but not with the number 1", y.told(6), asked ? 0 : 64);
            Check.due("byte " + i, y.byteAt(39, i), asked ? 0 : 1);
        }
    }

    /** "Bytes that are not told are 0.", whatever stood there. */
    private static void untoldBytesAre0() {
        Library x = new Library(3);
        for (int i = 0; i < 3 * 64; i++) {
            x.poke(i / 64, i % 64, 255);
        }
        int[] message = Check.message(7, 8, 200, 1);
        Check.due("keep", Check.keep(x, 7, 8, 200, 1), 0);
        Check.dueBlock(x, "first", 0, Check.block(0, 1, 0, 0, 56, Arrays.copyOf(message, 56)));
        Check.dueBlock(x, "further", 1, Check.block(1, 2, 0, 1, 2, message[56], message[57]));
        Check.dueBlock(x, "mark", 2, Check.block(2, 3, 0, 0, 1, 2));
        Check.due("opened", x.reopen(), 1);
    }

    /** "(running over); it stands with the lowest byte first": sums worked out apart from this project's code. */
    private static void sumsThatAreKnown() {
        Library x = new Library(40);
        Check.keep(x, 1, 1, 0, 0);
        dueSum(x, 0, 0x9d, 0x17, 0xb5, 0x24);
        dueSum(x, 1, 0xd3, 0x25, 0xed, 0x85);
        Library y = new Library(3);
        Check.keep(y, 8, 8, 255, 0);
        dueSum(y, 0, 0x60, 0x5d, 0x60, 0x8e);
        dueSum(y, 1, 0xbe, 0x12, 0x4d, 0x07);
        dueSum(y, 2, 0x13, 0x4d, 0xa4, 0x34);
    }

    private static void dueSum(Library x, int block, int... bytes) {
        for (int i = 0; i < 4; i++) {
            Check.due("byte " + i + " of the sum of block " + block, x.byteAt(block, i), bytes[i]);
        }
    }

    /** "the first ones that are free, in rising order", also over what others have, to the last block. */
    private static void placesWithGapsRise() {
        Library x = new Library(7);
        for (int i = 0; i < 3; i++) {
            Check.keep(x, 1, 1, i, 0);
        }
        x.drop(0);
        Check.due("a long one", Check.keep(x, 8, 8, 1, 1), 0);
        Check.due("its first block", x.byteAt(0, 4), 1);
        Check.due("its further block", x.byteAt(1, 4), 2);
        Check.due("its mark in the last block", x.byteAt(6, 4), 3);
        Check.due("opened", x.reopen(), 3);
    }

    /** "UnsupportedOperation .. (it stays then)", also with a fuse at its end: no byte is to be written. */
    private static void aRefusedKeepIsNoCut() {
        Library x = new Library(1);
        int picture = Check.make(x, 1, 1, 1, 1);
        x.fuse(0);
        Check.dueRefusal(x, "no room", Check.UNSUPPORTED, () -> x.keep(picture));
        Check.due("not cut", x.told(5), 0);
        Check.due("it stays", x.told(3), 1);
    }
}
