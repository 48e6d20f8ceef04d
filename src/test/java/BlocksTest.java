/** Promise 14 (poke), promise 15 (badAt) and promise 16 (byteAt). */
public final class BlocksTest {
    public static void main(String[] args) {
        pokeTurnsOneByte();
        pokeRefuses();
        byteAtTellsAndRefuses();
        badAtTellsTheFirst();
        badAtKnowsGoodBlocks();
        allGoOnWhenCut();
        theFirstAndTheLastByte();
        theLeastAndTheMostMask();
        pokeIsNoWriting();
        badAtTheFirstAndTheLastBlock();
        noBadBlock();
        byteAtOfOneBlock();
        Check.finish();
    }

    /** "A byte of a block changes by exclusive or with a mask .. the byte then." */
    private static void pokeTurnsOneByte() {
        Library x = new Library(3);
        Check.due("poke", x.poke(2, 63, 255), 255);
        Check.due("poke again", x.poke(2, 63, 15), 240);
        Check.due("poke with 0", x.poke(2, 63, 0), 240);
        Check.due("poke", x.poke(0, 0, 128), 128);
        int[] bytes = Look.bytes(x);
        for (int i = 0; i < bytes.length; i++) {
            Check.due("byte " + i, bytes[i], i == 0 ? 128 : i == 2 * 64 + 63 ? 240 : 0);
        }
        Check.dueTold(x, "poked", 3, 3, 0, 0, 0, 0, -1);
    }

    /** No such block or byte comes before no such mask. */
    private static void pokeRefuses() {
        Library x = new Library(3);
        int[][] places = {{-1, 0}, {3, 0}, {0, -1}, {0, 64}, {Integer.MAX_VALUE, 0}, {Integer.MIN_VALUE, 0},
            {0, Integer.MAX_VALUE}, {0, Integer.MIN_VALUE}, {1 << 26, 0}, {-1, 64}, {1, -64}};
        for (int[] p : places) {
            String at = p[0] + ", " + p[1];
            Check.dueRefusal(x, "poke(" + at + ", 1)", Check.INDEX, () -> x.poke(p[0], p[1], 1));
            Check.dueRefusal(x, "poke(" + at + ", 256)", Check.INDEX, () -> x.poke(p[0], p[1], 256));
            Check.dueRefusal(x, "byteAt(" + at + ")", Check.INDEX, () -> x.byteAt(p[0], p[1]));
        }
        for (int mask : new int[] {Integer.MIN_VALUE, -1, 256, Integer.MAX_VALUE}) {
            Check.dueRefusal(x, "poke(0, 0, " + mask + ")", Check.ARGUMENT, () -> x.poke(0, 0, mask));
        }
    }

    /** "A byte of a block.": each byte of each block is its own. */
    private static void byteAtTellsAndRefuses() {
        for (int own = 0; own < 40; own++) {
            Library x = new Library(40);
            for (int i = 0; i < 64; i++) {
                x.poke(own, i, (own * 7 + i * 5) % 256);
            }
            int[] bytes = Look.bytes(x);
            for (int i = 0; i < bytes.length; i++) {
                int wanted = i / 64 == own ? (own * 7 + i % 64 * 5) % 256 : 0;
                Check.due("byteAt(" + i / 64 + ", " + i % 64 + ")", bytes[i], wanted);
            }
            Check.dueThrow("byteAt(40, 0)", Check.INDEX, () -> x.byteAt(40, 0));
        }
    }

    /** "The first block that is neither all 0 nor GOOD" */
    private static void badAtTellsTheFirst() {
        Library x = new Library(6);
        Check.due("all 0", x.badAt(), ContentLibrary.NONE);
        Check.keep(x, 8, 8, 1, 1);
        Check.due("all good", x.badAt(), ContentLibrary.NONE);
        x.poke(5, 9, 1);
        Check.due("a free one", x.badAt(), 5);
        x.poke(2, 0, 1);
        Check.due("one in use", x.badAt(), 2);
        x.poke(0, 63, 1);
        Check.due("the first", x.badAt(), 0);
        x.poke(0, 63, 1);
        x.poke(2, 0, 1);
        x.poke(5, 9, 1);
        Check.due("all mended", x.badAt(), ContentLibrary.NONE);
    }

    /** "GOOD if its kind is 1 .. 3, its number 0 .. 15, its bytes at most 56, and its sum is right" */
    private static void badAtKnowsGoodBlocks() {
        dueBad("kind 0", false, 0, 0, 0, 0);
        dueBad("kind 1", true, 1, 0, 0, 0);
        dueBad("kind 2", true, 2, 0, 0, 0);
        dueBad("kind 3", true, 3, 0, 0, 0);
        dueBad("kind 4", false, 4, 0, 0, 0);
        dueBad("kind 5", false, 5, 0, 0, 0);
        dueBad("kind 255", false, 255, 0, 0, 0);
        dueBad("number 15", true, 1, 15, 0, 0);
        dueBad("number 16", false, 1, 16, 0, 0);
        dueBad("number 17", false, 2, 17, 0, 0);
        dueBad("number 255", false, 3, 255, 0, 0);
        dueBad("which 255", true, 1, 0, 255, 0);
        dueBad("56 bytes", true, 1, 0, 0, 56);
        dueBad("57 bytes", false, 1, 0, 0, 57);
        dueBad("58 bytes", false, 2, 0, 0, 58);
        dueBad("255 bytes", false, 3, 0, 0, 255);
        for (int i = 0; i < 64; i++) {
            Library x = new Library(6);
            Check.forge(x, 4, Check.block(4, 1, 2, 3, 4, 5, 6, 7));
            Check.due("good", x.badAt(), ContentLibrary.NONE);
            x.poke(4, i, 64);
            Check.due("byte " + i + " changed", x.badAt(), 4);
            Check.forge(x, 4, new int[64]);
            Check.due("all 0", x.badAt(), ContentLibrary.NONE);
            x.poke(4, i, 64);
            Check.due("byte " + i + " alone", x.badAt(), 4);
        }
    }

    private static void dueBad(String what, boolean good, int kind, int number, int which, int count) {
        Library x = new Library(6);
        Check.forge(x, 3, Check.block(3, kind, number, which, count, 1, 2, 3));
        Check.due(what, x.badAt(), good ? ContentLibrary.NONE : 3);
    }

    /** "IllegalState: it is cut (of all but reopen(), byteAt(), poke(), badAt() and told())" */
    private static void allGoOnWhenCut() {
        Library x = new Library(6);
        Check.keep(x, 1, 1, 1, 1);
        x.fuse(2);
        Check.keep(x, 1, 1, 2, 1);
        Check.due("a block half written", x.badAt(), 2);
        Check.due("its number", x.byteAt(2, 5), 1);
        Check.due("poke", x.poke(2, 5, 1), 0);
        Check.due("all 0", x.badAt(), ContentLibrary.NONE);
        Check.dueRefusal(x, "byteAt(6, 0)", Check.INDEX, () -> x.byteAt(6, 0));
        Check.dueRefusal(x, "poke(0, 64, 0)", Check.INDEX, () -> x.poke(0, 64, 0));
        Check.dueRefusal(x, "poke(0, 0, -1)", Check.ARGUMENT, () -> x.poke(0, 0, -1));
        Check.due("still cut", x.told(5), 1);
    }

    /** "there is no such .. block, byte": each block ends at its own 64th byte. */
    private static void theFirstAndTheLastByte() {
        for (int blocks : new int[] {1, 2, 40}) {
            Library x = new Library(blocks);
            Check.due("the first", x.poke(0, 0, 17), 17);
            Check.due("the last", x.poke(blocks - 1, 63, 34), 34);
            Check.due("the first", x.byteAt(0, 0), 17);
            Check.due("the last", x.byteAt(blocks - 1, 63), 34);
            Check.dueRefusal(x, "before the first", Check.INDEX, () -> x.poke(0, -1, 1));
            Check.dueRefusal(x, "behind the last", Check.INDEX, () -> x.poke(blocks - 1, 64, 1));
            Check.dueRefusal(x, "a block before", Check.INDEX, () -> x.poke(-1, 63, 1));
            Check.dueRefusal(x, "a block behind", Check.INDEX, () -> x.poke(blocks, 0, 1));
            Check.dueRefusal(x, "behind a block, not the next one's", Check.INDEX, () -> x.poke(0, 64, 1));
        }
    }

    /** "the mask is not 0 .. 255" */
    private static void theLeastAndTheMostMask() {
        Library x = new Library(1);
        Check.dueRefusal(x, "-1", Check.ARGUMENT, () -> x.poke(0, 9, -1));
        Check.due("0", x.poke(0, 9, 0), 0);
        Check.due("255", x.poke(0, 9, 255), 255);
        Check.due("0 again", x.poke(0, 9, 0), 255);
        Check.due("255 again", x.poke(0, 9, 255), 0);
        Check.dueRefusal(x, "256", Check.ARGUMENT, () -> x.poke(0, 9, 256));
    }

    /** A byte changes "in the block alone": no fuse burns, and nothing that is there changes. */
    private static void pokeIsNoWriting() {
        Library x = new Library(4);
        Check.keep(x, 2, 1, 5, 6);
        x.fuse(0);
        Check.due("poke", x.poke(0, 10, 255), 5 ^ 255);
        Check.dueTold(x, "poked", 4, 2, 1, 0, 0, 0, 0);
        Check.due("the sample", x.sample(0, 0, 0), 5);
    }

    /** "The first block": from block 0 to the last. */
    private static void badAtTheFirstAndTheLastBlock() {
        for (int blocks : new int[] {1, 40}) {
            Library x = new Library(blocks);
            x.poke(blocks - 1, 0, 1);
            Check.due("the last", x.badAt(), blocks - 1);
            x.poke(0, 63, 1);
            Check.due("the first", x.badAt(), 0);
        }
    }

    /** "neither all 0 nor GOOD; NONE" */
    private static void noBadBlock() {
        Library x = new Library(40);
        Check.due("all 0", x.badAt(), ContentLibrary.NONE);
        for (int block = 0; block < 40; block++) {
            Check.forge(x, block, Check.block(block, 1 + block % 3, block % 16, block, block % 57, block));
            Check.due("good, and the rest all 0", x.badAt(), ContentLibrary.NONE);
        }
        Check.due("not one of a picture", x.reopen(), 0);
        Check.due("good all the same", x.badAt(), ContentLibrary.NONE);
    }

    /** "there is no such .. block, byte", of the least library. */
    private static void byteAtOfOneBlock() {
        Library x = new Library(1);
        Check.due("the first", x.byteAt(0, 0), 0);
        Check.due("the last", x.byteAt(0, 63), 0);
        Check.dueThrow("before", Check.INDEX, () -> x.byteAt(0, -1));
        Check.dueThrow("behind", Check.INDEX, () -> x.byteAt(0, 64));
        Check.dueThrow("a block before", Check.INDEX, () -> x.byteAt(-1, 0));
        Check.dueThrow("a block behind", Check.INDEX, () -> x.byteAt(1, 0));
    }
}
