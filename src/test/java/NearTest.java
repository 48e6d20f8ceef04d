/** Promise 8 (near) and promise 9 (found). */
public final class NearTest {
    public static void main(String[] args) {
        byBitsThenByNumbers();
        theBoundCounts();
        whatWasFoundStays();
        nearRefuses();
        foundRefuses();
        nothingWhenCut();
        noneIsFoundAtFirst();
        noneIsFoundOfNone();
        sixteenAreFound();
        theLeastAndTheMostBound();
        aPictureThatIsThereIsNearestToItself();
        noneFoundTakesThePlaceOfSome();
        noneIsFoundBehindACut();
        Check.finish();
    }

    /** A picture of 8 by 8 whose print has the first so many bits. */
    private static int withBits(Library x, int bits) {
        int picture = x.picture(8, 8);
        if (bits > 0) {
            x.samples(picture, bits, 200, 0);
        }
        x.samples(picture, 64, 1, 0);
        return picture;
    }

    private static Library libraryOf(int... bits) {
        Library x = new Library(40);
        for (int b : bits) {
            x.keep(withBits(x, b));
        }
        return x;
    }

    private static void dueFound(Library x, String when, int... wanted) {
        Check.due(when + ": how many", x.told(4), wanted.length / 2);
        for (int k = 0; k < wanted.length / 2; k++) {
            Check.due(when + ": number at " + k, x.found(k, 0), wanted[2 * k]);
            Check.due(when + ": bits at " + k, x.found(k, 1), wanted[2 * k + 1]);
        }
    }

    /** "they are found then, by how many bits, then by numbers" */
    private static void byBitsThenByNumbers() {
        Library x = libraryOf(30, 10, 5, 15, 20, 9, 11);
        int picture = withBits(x, 10);
        Check.due("near", x.near(picture, 64), 7);
        dueFound(x, "all", 1, 0, 5, 1, 6, 1, 2, 5, 3, 5, 4, 10, 0, 20);
        x.drop(6);
        Check.due("near", x.near(picture, 5), 4);
        dueFound(x, "without one", 1, 0, 5, 1, 2, 5, 3, 5);
        Check.due("the picture stays", x.told(3), 1);
    }

    /** "in at most so many bits": each bound just at and just below what differs. */
    private static void theBoundCounts() {
        Library x = libraryOf(1, 2, 4, 63);
        int picture = withBits(x, 1);
        int[][] cases = {{0, 1}, {1, 2}, {2, 2}, {3, 3}, {61, 3}, {62, 4}, {63, 4}, {64, 4}};
        for (int[] c : cases) {
            Check.due("near with bound " + c[0], x.near(picture, c[0]), c[1]);
            Check.due("told(4)", x.told(4), c[1]);
        }
        Library empty = new Library(4);
        Check.due("near of none", empty.near(withBits(empty, 3), 64), 0);
        Library halves = new Library(8);
        Check.keep(halves, 2, 1, 0, 1);
        Check.due("all bits differ, bound 63", halves.near(Check.make(halves, 2, 1, 1, -1), 63), 0);
        Check.due("all bits differ, bound 64", halves.near(0, 64), 1);
        dueFound(halves, "all bits", 0, 64);
    }

    /** "Of those found last": till the next near that is not refused. */
    private static void whatWasFoundStays() {
        Library x = libraryOf(1, 2, 3);
        int picture = withBits(x, 2);
        x.near(picture, 1);
        x.drop(1);
        x.keep(picture);
        x.poke(0, 0, 7);
        x.sweep();
        dueFound(x, "found before", 1, 0, 0, 1, 2, 1);
        int half = x.picture(2, 2);
        Check.dueRefusal(x, "near of one not whole", Check.ARGUMENT, () -> x.near(half, 64));
        dueFound(x, "behind a refusal", 1, 0, 0, 1, 2, 1);
        x.near(withBits(x, 60), 0);
        dueFound(x, "found last: none");
        x.near(withBits(x, 1), 0);
        x.reopen();
        dueFound(x, "reopened");
    }

    private static void nearRefuses() {
        Library x = libraryOf(1, 2, 3);
        int picture = withBits(x, 2);
        int half = x.picture(2, 2);
        x.near(picture, 64);
        for (int bound : new int[] {Integer.MIN_VALUE, -1, 65, Integer.MAX_VALUE}) {
            Check.dueRefusal(x, "near with bound " + bound, Check.ARGUMENT, () -> x.near(picture, bound));
        }
        Check.dueRefusal(x, "near of one not whole", Check.ARGUMENT, () -> x.near(half, 3));
        for (int none : new int[] {Integer.MIN_VALUE, -1, 2, 8, Integer.MAX_VALUE}) {
            Check.dueRefusal(x, "near of none", Check.INDEX, () -> x.near(none, 3));
            Check.dueRefusal(x, "near of none with no bound", Check.INDEX, () -> x.near(none, -3));
        }
    }

    private static void foundRefuses() {
        Library x = libraryOf(1, 2, 3);
        x.near(withBits(x, 2), 64);
        for (int k : new int[] {Integer.MIN_VALUE, -1, 3, 16, Integer.MAX_VALUE}) {
            Check.dueRefusal(x, "found(" + k + ", 0)", Check.INDEX, () -> x.found(k, 0));
            Check.dueRefusal(x, "found(" + k + ", 2)", Check.INDEX, () -> x.found(k, 2));
        }
        for (int what : new int[] {Integer.MIN_VALUE, -1, 2, Integer.MAX_VALUE}) {
            Check.dueRefusal(x, "found(0, " + what + ")", Check.ARGUMENT, () -> x.found(0, what));
        }
    }

    private static void nothingWhenCut() {
        Library x = libraryOf(1, 2, 3);
        int picture = withBits(x, 2);
        x.near(picture, 64);
        x.fuse(0);
        x.drop(0);
        Check.dueRefusal(x, "near", Check.STATE, () -> x.near(picture, 3));
        Check.dueRefusal(x, "found", Check.STATE, () -> x.found(0, 0));
        Check.dueRefusal(x, "found of nothing", Check.STATE, () -> x.found(99, 99));
    }

    /** Before a first near nothing was found. */
    private static void noneIsFoundAtFirst() {
        Library x = libraryOf(1, 2);
        Check.due("told", x.told(4), 0);
        Check.dueThrow("the number at 0", Check.INDEX, () -> x.found(0, 0));
        Check.dueThrow("the bits at 0", Check.INDEX, () -> x.found(0, 1));
    }

    /** No number is there, so none is near. */
    private static void noneIsFoundOfNone() {
        Library x = new Library(5);
        Check.due("near", x.near(withBits(x, 5), 64), 0);
        Check.due("told", x.told(4), 0);
        Check.dueThrow("found", Check.INDEX, () -> x.found(0, 0));
    }

    private static Library sixteen() {
        Library x = new Library(40);
        for (int i = 0; i < 16; i++) {
            Check.keep(x, 2, 1, 100 - i, i % 2 == 0 ? 1 : -1);
        }
        return x;
    }

    /** As many as there can be, with those of the same bits by their numbers. */
    private static void sixteenAreFound() {
        Library x = sixteen();
        Check.due("near", x.near(Check.make(x, 2, 1, 5, -1), 64), 16);
        dueFound(x, "sixteen", 1, 0, 3, 0, 5, 0, 7, 0, 9, 0, 11, 0, 13, 0, 15, 0,
                0, 64, 2, 64, 4, 64, 6, 64, 8, 64, 10, 64, 12, 64, 14, 64);
        Check.dueThrow("before the first", Check.INDEX, () -> x.found(-1, 0));
        Check.dueThrow("behind the last", Check.INDEX, () -> x.found(16, 0));
    }

    /** "in at most so many bits": 0 and 64 are bounds. */
    private static void theLeastAndTheMostBound() {
        Library x = sixteen();
        int picture = Check.make(x, 2, 1, 5, -1);
        Check.dueThrow("-1", Check.ARGUMENT, () -> x.near(picture, -1));
        Check.due("0", x.near(picture, 0), 8);
        Check.due("63", x.near(picture, 63), 8);
        Check.due("64", x.near(picture, 64), 16);
        Check.dueThrow("65", Check.ARGUMENT, () -> x.near(picture, 65));
        Check.due("found by 64", x.told(4), 16);
    }

    /** 0 bits differ. */
    private static void aPictureThatIsThereIsNearestToItself() {
        Library x = libraryOf(7, 6, 5);
        Check.due("near", x.near(withBits(x, 5), 0), 1);
        dueFound(x, "itself", 2, 0);
    }

    /** Those found last may be none. */
    private static void noneFoundTakesThePlaceOfSome() {
        Library x = libraryOf(7, 6, 5);
        Check.due("some", x.near(withBits(x, 5), 64), 3);
        Check.due("none", x.near(withBits(x, 40), 0), 0);
        dueFound(x, "none");
        Check.dueThrow("found", Check.INDEX, () -> x.found(0, 0));
    }

    /** "nothing is there but the blocks" */
    private static void noneIsFoundBehindACut() {
        Library x = libraryOf(7, 6, 5);
        x.near(withBits(x, 5), 64);
        x.fuse(0);
        Check.due("drop", x.drop(0), ContentLibrary.CUT);
        Check.due("told when cut", x.told(4), 0);
        x.reopen();
        Check.due("told then", x.told(4), 0);
        Check.dueThrow("found then", Check.INDEX, () -> x.found(0, 0));
    }
}
