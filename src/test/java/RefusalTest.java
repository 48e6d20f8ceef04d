import java.util.function.ToLongFunction;

/**
 * Every call that is refused: "Of several that a call names, the first one. A call that throws changes nothing."
 * Nothing is what a twin shows that was made alike and was not asked.
 */
public final class RefusalTest {
    private static final int LEAST = Integer.MIN_VALUE;
    private static final int MOST = Integer.MAX_VALUE;
    private static final int[] NO_SIDES = {LEAST, -8, -1, 0, 9, 257, MOST};
    private static final int[] NO_PICTURES = {LEAST, -1, 4, 7, 8, MOST};
    private static final int[] NO_NUMBERS = {LEAST, -1, 2, 4, 15, 16, MOST};
    private static final int[] NO_BOUNDS = {LEAST, -1, 65, MOST};
    private static final int[] NO_BLOCKS = {LEAST, -1, 12, 40, 1 << 26, MOST};
    private static final int[] NO_BYTES = {LEAST, -64, -1, 64, 65, MOST};
    private static final int[] NO_MASKS = {LEAST, -1, 256, MOST};

    public static void main(String[] args) {
        pictureOfNoSize();
        pictureWhenThereAreEight();
        samplesToNoPicture();
        samplesBelowOne();
        keepOfNoPicture();
        keepOfOneNotWhole();
        keepWhenThereAreSixteen();
        keepWithoutBlocks();
        contentOfNoNumber();
        digestOfNoWord();
        sampleOfNoPlace();
        nearOfNoPicture();
        nearOfOneNotWhole();
        nearOfNoBound();
        foundAtNoPlace();
        foundOfNoWhat();
        dropOfNoNumber();
        fuseBelowNone();
        pokeOfNoByte();
        pokeOfNoMask();
        byteAtNoByte();
        allThatIsRefusedWhenCut();
        allThatAnswersWhenCut();
        anEndedFuseRefusesNothing();
        Check.finish();
    }

    private static void refused(Scene scene, Class<?> want, String call, ToLongFunction<Calls> body) {
        Calls asked = scene.real();
        String where = scene.name() + ": " + call;
        Check.dueSame(where, "throws." + want.getSimpleName(), Check.answer(asked, body));
        Check.dueSame(where + " changes nothing", Look.all(scene.real()), Look.all(asked));
    }

    private static void answers(Scene scene, long want, String call, ToLongFunction<Calls> body) {
        Check.dueSame(scene.name() + ": " + call, Long.toString(want), Check.answer(scene.real(), body));
    }

    /** "IllegalArgument: its sizes.", also when there are eight. */
    private static void pictureOfNoSize() {
        for (Scene scene : new Scene[] {Scene.NEW, Scene.BUSY, Scene.EIGHT, Scene.ENDED}) {
            for (int side : NO_SIDES) {
                refused(scene, Check.ARGUMENT, "picture(" + side + ", 8)", c -> c.picture(side, 8));
                refused(scene, Check.ARGUMENT, "picture(1, " + side + ")", c -> c.picture(1, side));
                refused(scene, Check.ARGUMENT, "picture(" + side + ", 0)", c -> c.picture(side, 0));
            }
        }
    }

    /** "UnsupportedOperation: there are eight." */
    private static void pictureWhenThereAreEight() {
        refused(Scene.EIGHT, Check.UNSUPPORTED, "picture(1, 1)", c -> c.picture(1, 1));
        refused(Scene.EIGHT, Check.UNSUPPORTED, "picture(8, 8)", c -> c.picture(8, 8));
    }

    /** "IndexOutOfBounds: there is no such picture", also when n is below 1. */
    private static void samplesToNoPicture() {
        refused(Scene.NEW, Check.INDEX, "samples(0, 1, 1, 1)", c -> c.samples(0, 1, 1, 1));
        for (int picture : NO_PICTURES) {
            refused(Scene.BUSY, Check.INDEX, "samples(" + picture + ", 1, ..)", c -> c.samples(picture, 1, 1, 1));
            refused(Scene.BUSY, Check.INDEX, "samples(" + picture + ", 0, ..)", c -> c.samples(picture, 0, 1, 1));
        }
        refused(Scene.EIGHT, Check.INDEX, "samples(8, 1, 1, 1)", c -> c.samples(8, 1, 1, 1));
    }

    /** "IllegalArgument: n is below 1.", also of a picture that wants none. */
    private static void samplesBelowOne() {
        for (int picture = 0; picture < 4; picture++) {
            int p = picture;
            for (int n : new int[] {0, -1, LEAST}) {
                refused(Scene.BUSY, Check.ARGUMENT, "samples(" + p + ", " + n + ", ..)", c -> c.samples(p, n, 1, 1));
            }
        }
    }

    /** "IndexOutOfBounds: there is no such picture": a picture that was kept is none, either. */
    private static void keepOfNoPicture() {
        refused(Scene.NEW, Check.INDEX, "keep(0)", c -> c.keep(0));
        for (int picture : NO_PICTURES) {
            refused(Scene.BUSY, Check.INDEX, "keep(" + picture + ")", c -> c.keep(picture));
            refused(Scene.SIXTEEN_AND_NO_BLOCK, Check.INDEX, "keep(" + picture + ")", c -> c.keep(picture));
        }
        refused(Scene.BUSY.then("one kept", c -> c.keep(0)), Check.INDEX, "keep(0)", c -> c.keep(0));
        refused(Scene.BUSY.then("one kept that is there", c -> c.keep(3)), Check.INDEX, "keep(3)", c -> c.keep(3));
    }

    /** "IllegalArgument: it is not whole.", also when there is no room. */
    private static void keepOfOneNotWhole() {
        refused(Scene.BUSY, Check.ARGUMENT, "keep(1)", c -> c.keep(1));
        refused(Scene.BUSY, Check.ARGUMENT, "keep(2)", c -> c.keep(2));
        Scene oneShort = Scene.BUSY.then("one sample short", c -> c.samples(2, 63, 0, 0));
        refused(oneShort, Check.ARGUMENT, "keep(2)", c -> c.keep(2));
        refused(Scene.SIXTEEN, Check.ARGUMENT, "keep(2)", c -> c.keep(2));
        refused(Scene.SIXTEEN_AND_NO_BLOCK, Check.ARGUMENT, "keep(2)", c -> c.keep(2));
        refused(Scene.NO_BLOCK, Check.ARGUMENT, "keep(3)", c -> c.keep(3));
        refused(Scene.ENDED, Check.ARGUMENT, "keep(1)", c -> c.keep(1));
    }

    /** "UnsupportedOperation: there are sixteen .. (it stays then)": its number's old blocks stay, too. */
    private static void keepWhenThereAreSixteen() {
        refused(Scene.SIXTEEN, Check.UNSUPPORTED, "keep(0)", c -> c.keep(0));
        refused(Scene.SIXTEEN_AND_NO_BLOCK, Check.UNSUPPORTED, "keep(0)", c -> c.keep(0));
        refused(Scene.SIXTEEN.then("fuse(0)", c -> c.fuse(0)), Check.UNSUPPORTED, "keep(0)", c -> c.keep(0));
        answers(Scene.SIXTEEN, 15, "keep(1)", c -> c.keep(1));
        answers(Scene.SIXTEEN_AND_NO_BLOCK, 15, "keep(1)", c -> c.keep(1));
    }

    /** "UnsupportedOperation: .. not so many blocks free (it stays then)": old blocks of its number stay, too. */
    private static void keepWithoutBlocks() {
        refused(Scene.NO_BLOCK, Check.UNSUPPORTED, "keep(0)", c -> c.keep(0));
        refused(Scene.NO_BLOCK, Check.UNSUPPORTED, "keep(1)", c -> c.keep(1));
        refused(Scene.ONE_BLOCK, Check.UNSUPPORTED, "keep(0)", c -> c.keep(0));
        refused(Scene.ONE_BLOCK, Check.UNSUPPORTED, "keep(1)", c -> c.keep(1));
        refused(Scene.TWO_BLOCKS, Check.UNSUPPORTED, "keep(1)", c -> c.keep(1));
        refused(Scene.TWO_BLOCKS.then("fuse(0)", c -> c.fuse(0)), Check.UNSUPPORTED, "keep(1)", c -> c.keep(1));
        answers(Scene.TWO_BLOCKS, 2, "keep(0)", c -> c.keep(0));
        answers(Scene.NO_BLOCK, 1, "keep(2)", c -> c.keep(2));
    }

    /** "IndexOutOfBounds: there is no such .. number": one that was dropped is none, either. */
    private static void contentOfNoNumber() {
        for (int number : NO_NUMBERS) {
            refused(Scene.BUSY, Check.INDEX, "digest(" + number + ", 0)", c -> c.digest(number, 0));
            refused(Scene.BUSY, Check.INDEX, "digest(" + number + ", 8)", c -> c.digest(number, 8));
            refused(Scene.BUSY, Check.INDEX, "print(" + number + ")", c -> c.print(number));
            refused(Scene.BUSY, Check.INDEX, "sample(" + number + ", 0, 0)", c -> c.sample(number, 0, 0));
        }
        refused(Scene.NEW, Check.INDEX, "digest(0, 0)", c -> c.digest(0, 0));
        refused(Scene.NEW, Check.INDEX, "print(0)", c -> c.print(0));
        refused(Scene.NEW, Check.INDEX, "sample(0, 0, 0)", c -> c.sample(0, 0, 0));
        refused(Scene.SIXTEEN, Check.INDEX, "digest(16, 0)", c -> c.digest(16, 0));
        refused(Scene.SIXTEEN, Check.INDEX, "print(16)", c -> c.print(16));
        refused(Scene.SIXTEEN, Check.INDEX, "sample(16, 0, 0)", c -> c.sample(16, 0, 0));
    }

    /** "IndexOutOfBounds: there is no such .. word." */
    private static void digestOfNoWord() {
        for (int i : new int[] {LEAST, -1, 8, 32, MOST}) {
            refused(Scene.BUSY, Check.INDEX, "digest(1, " + i + ")", c -> c.digest(1, i));
        }
    }

    /** Number 0 has 3 by 2 samples, number 1 has 8 by 8: there is no such sample behind them. */
    private static void sampleOfNoPlace() {
        int[][] places = {{LEAST, 0}, {-1, 0}, {3, 0}, {3, 1}, {MOST, 0}, {0, LEAST}, {0, -1}, {0, 2}, {2, 2}, {0, MOST},
            {-3, 1}, {5, 0}};
        for (int[] p : places) {
            refused(Scene.BUSY, Check.INDEX, "sample(0, " + p[0] + ", " + p[1] + ")", c -> c.sample(0, p[0], p[1]));
        }
        refused(Scene.BUSY, Check.INDEX, "sample(1, 8, 0)", c -> c.sample(1, 8, 0));
        refused(Scene.BUSY, Check.INDEX, "sample(1, 0, 8)", c -> c.sample(1, 0, 8));
    }

    /** "IndexOutOfBounds: there is no such picture", also when the bound is none. */
    private static void nearOfNoPicture() {
        refused(Scene.NEW, Check.INDEX, "near(0, 64)", c -> c.near(0, 64));
        for (int picture : NO_PICTURES) {
            refused(Scene.BUSY, Check.INDEX, "near(" + picture + ", 0)", c -> c.near(picture, 0));
            refused(Scene.BUSY, Check.INDEX, "near(" + picture + ", 65)", c -> c.near(picture, 65));
        }
    }

    /** "IllegalArgument: it is not whole": what was found last stays. */
    private static void nearOfOneNotWhole() {
        refused(Scene.BUSY, Check.ARGUMENT, "near(1, 64)", c -> c.near(1, 64));
        refused(Scene.BUSY, Check.ARGUMENT, "near(2, 0)", c -> c.near(2, 0));
        refused(Scene.BUSY, Check.ARGUMENT, "near(2, 65)", c -> c.near(2, 65));
    }

    /** "IllegalArgument: .. or the bound not 0 .. 64": what was found last stays. */
    private static void nearOfNoBound() {
        for (int bound : NO_BOUNDS) {
            refused(Scene.BUSY, Check.ARGUMENT, "near(0, " + bound + ")", c -> c.near(0, bound));
        }
    }

    /** Of those found last there is none at that place, also when what is none that is told. */
    private static void foundAtNoPlace() {
        refused(Scene.NEW, Check.INDEX, "found(0, 0)", c -> c.found(0, 0));
        refused(Scene.NEW, Check.INDEX, "found(0, 2)", c -> c.found(0, 2));
        for (int k : new int[] {LEAST, -1, 3, 15, 16, MOST}) {
            refused(Scene.BUSY, Check.INDEX, "found(" + k + ", 0)", c -> c.found(k, 0));
            refused(Scene.BUSY, Check.INDEX, "found(" + k + ", 1)", c -> c.found(k, 1));
            refused(Scene.BUSY, Check.INDEX, "found(" + k + ", 2)", c -> c.found(k, 2));
        }
        refused(Scene.SIXTEEN, Check.INDEX, "found(16, 0)", c -> c.found(16, 0));
        refused(Scene.BUSY.then("reopened", c -> c.reopen()), Check.INDEX, "found(0, 0)", c -> c.found(0, 0));
    }

    /** "IllegalArgument: another number is none that is told." */
    private static void foundOfNoWhat() {
        for (int what : new int[] {LEAST, -1, 2, 3, MOST}) {
            refused(Scene.BUSY, Check.ARGUMENT, "found(0, " + what + ")", c -> c.found(0, what));
            refused(Scene.BUSY, Check.ARGUMENT, "found(2, " + what + ")", c -> c.found(2, what));
        }
    }

    /** "IndexOutOfBounds: there is no such .. number": no byte is written then. */
    private static void dropOfNoNumber() {
        refused(Scene.NEW, Check.INDEX, "drop(0)", c -> c.drop(0));
        for (int number : NO_NUMBERS) {
            refused(Scene.BUSY, Check.INDEX, "drop(" + number + ")", c -> c.drop(number));
            refused(Scene.ENDED, Check.INDEX, "drop(" + number + ")", c -> c.drop(number));
        }
        refused(Scene.BUSY.then("drop(1)", c -> c.drop(1)), Check.INDEX, "drop(1)", c -> c.drop(1));
        refused(Scene.SIXTEEN, Check.INDEX, "drop(16)", c -> c.drop(16));
    }

    /** "IllegalArgument: it is below NONE.": the fuse that was set goes on. */
    private static void fuseBelowNone() {
        for (int bytes : new int[] {-2, -3, LEAST}) {
            refused(Scene.NEW, Check.ARGUMENT, "fuse(" + bytes + ")", c -> c.fuse(bytes));
            refused(Scene.BUSY, Check.ARGUMENT, "fuse(" + bytes + ")", c -> c.fuse(bytes));
            refused(Scene.ENDED, Check.ARGUMENT, "fuse(" + bytes + ")", c -> c.fuse(bytes));
        }
    }

    /** "IndexOutOfBounds: there is no such .. block, byte", also when the mask is none, and also when it is cut. */
    private static void pokeOfNoByte() {
        for (Scene scene : new Scene[] {Scene.BUSY, Scene.CUT}) {
            for (int block : NO_BLOCKS) {
                refused(scene, Check.INDEX, "poke(" + block + ", 0, 1)", c -> c.poke(block, 0, 1));
                refused(scene, Check.INDEX, "poke(" + block + ", 0, 256)", c -> c.poke(block, 0, 256));
            }
            for (int i : NO_BYTES) {
                refused(scene, Check.INDEX, "poke(1, " + i + ", 1)", c -> c.poke(1, i, 1));
                refused(scene, Check.INDEX, "poke(1, " + i + ", -1)", c -> c.poke(1, i, -1));
            }
            refused(scene, Check.INDEX, "poke(11, 64, 1)", c -> c.poke(11, 64, 1));
        }
    }

    /** "IllegalArgument: the mask is not 0 .. 255.", also when it is cut. */
    private static void pokeOfNoMask() {
        for (int mask : NO_MASKS) {
            refused(Scene.BUSY, Check.ARGUMENT, "poke(0, 0, " + mask + ")", c -> c.poke(0, 0, mask));
            refused(Scene.CUT, Check.ARGUMENT, "poke(11, 63, " + mask + ")", c -> c.poke(11, 63, mask));
        }
    }

    /** "IndexOutOfBounds: there is no such .. block, byte", also when it is cut. */
    private static void byteAtNoByte() {
        for (Scene scene : new Scene[] {Scene.BUSY, Scene.CUT}) {
            for (int block : NO_BLOCKS) {
                refused(scene, Check.INDEX, "byteAt(" + block + ", 0)", c -> c.byteAt(block, 0));
            }
            for (int i : NO_BYTES) {
                refused(scene, Check.INDEX, "byteAt(1, " + i + ")", c -> c.byteAt(1, i));
            }
        }
    }

    /** "IllegalState: it is cut", whatever else is wrong with the call. */
    private static void allThatIsRefusedWhenCut() {
        refused(Scene.CUT, Check.STATE, "picture(1, 1)", c -> c.picture(1, 1));
        refused(Scene.CUT, Check.STATE, "picture(0, 9)", c -> c.picture(0, 9));
        refused(Scene.CUT, Check.STATE, "samples(1, 1, 1, 1)", c -> c.samples(1, 1, 1, 1));
        refused(Scene.CUT, Check.STATE, "samples(8, 0, 1, 1)", c -> c.samples(8, 0, 1, 1));
        refused(Scene.CUT, Check.STATE, "keep(0)", c -> c.keep(0));
        refused(Scene.CUT, Check.STATE, "keep(-1)", c -> c.keep(-1));
        refused(Scene.CUT, Check.STATE, "digest(0, 0)", c -> c.digest(0, 0));
        refused(Scene.CUT, Check.STATE, "digest(16, 8)", c -> c.digest(16, 8));
        refused(Scene.CUT, Check.STATE, "print(0)", c -> c.print(0));
        refused(Scene.CUT, Check.STATE, "print(16)", c -> c.print(16));
        refused(Scene.CUT, Check.STATE, "sample(0, 0, 0)", c -> c.sample(0, 0, 0));
        refused(Scene.CUT, Check.STATE, "sample(16, -1, 8)", c -> c.sample(16, -1, 8));
        refused(Scene.CUT, Check.STATE, "near(0, 64)", c -> c.near(0, 64));
        refused(Scene.CUT, Check.STATE, "near(8, 65)", c -> c.near(8, 65));
        refused(Scene.CUT, Check.STATE, "found(0, 0)", c -> c.found(0, 0));
        refused(Scene.CUT, Check.STATE, "found(16, 2)", c -> c.found(16, 2));
        refused(Scene.CUT, Check.STATE, "drop(0)", c -> c.drop(0));
        refused(Scene.CUT, Check.STATE, "drop(16)", c -> c.drop(16));
        refused(Scene.CUT, Check.STATE, "sweep()", c -> c.sweep());
        refused(Scene.CUT, Check.STATE, "fuse(-1)", c -> c.fuse(-1));
        refused(Scene.CUT, Check.STATE, "fuse(-2)", c -> c.fuse(-2));
    }

    /** "(of all but reopen(), byteAt(), poke(), badAt() and told())" */
    private static void allThatAnswersWhenCut() {
        answers(Scene.CUT, 3, "reopen()", c -> c.reopen());
        answers(Scene.CUT, 2, "byteAt(5, 5), of what was half written", c -> c.byteAt(5, 5));
        answers(Scene.CUT, 253, "poke(5, 5, 255)", c -> c.poke(5, 5, 255));
        answers(Scene.CUT, 5, "badAt()", c -> c.badAt());
        int[] told = {12, 0, 0, 0, 0, 1, 0, -1};
        for (int what = 0; what < told.length; what++) {
            int w = what;
            answers(Scene.CUT, told[w], "told(" + w + ")", c -> c.told(w));
        }
        answers(Scene.CUT, -1, "told(-1)", c -> c.told(-1));
    }

    /** A fuse at its end is no cut till a byte is to be written. */
    private static void anEndedFuseRefusesNothing() {
        answers(Scene.ENDED, 4, "picture(1, 1)", c -> c.picture(1, 1));
        answers(Scene.ENDED, 3, "samples(1, 1, 1, 1)", c -> c.samples(1, 1, 1, 1));
        answers(Scene.ENDED, 0, "keep(3), of one that is there", c -> c.keep(3));
        answers(Scene.ENDED, 10, "sample(0, 0, 0)", c -> c.sample(0, 0, 0));
        answers(Scene.ENDED, 3, "near(0, 64)", c -> c.near(0, 64));
        answers(Scene.ENDED, 0, "fuse(1)", c -> c.fuse(1));
        answers(Scene.ENDED, ContentLibrary.CUT, "keep(0)", c -> c.keep(0));
        answers(Scene.ENDED, ContentLibrary.CUT, "drop(0)", c -> c.drop(0));
        answers(Scene.ENDED, ContentLibrary.CUT, "sweep()", c -> c.sweep());
    }
}
