import java.util.List;
import java.util.function.Consumer;

/** A state of a library that can be made as often as wanted, of the class and of the plain model. */
record Scene(String name, int blocks, Consumer<Calls> making) {
    static final Scene NEW = new Scene("new", 12, c -> { });
    static final Scene BUSY = new Scene("busy", 12, Scene::makeBusy);
    static final Scene EIGHT = new Scene("eight being made", 12, Scene::makeEight);
    static final Scene SIXTEEN = new Scene("sixteen kept", 40, c -> makeSixteen(c));
    static final Scene SIXTEEN_AND_NO_BLOCK = new Scene("sixteen kept in all blocks", 32, c -> makeSixteen(c));
    static final Scene NO_BLOCK = new Scene("no block free", 4, Scene::makeTwoSmall);
    static final Scene ONE_BLOCK = new Scene("one block free", 5, Scene::makeTwoSmall);
    static final Scene TWO_BLOCKS = new Scene("two blocks free", 6, Scene::makeTwoSmall);
    static final Scene ENDED = new Scene("a fuse at its end", 12, Scene::makeEnded);
    static final Scene CUT = new Scene("cut", 12, Scene::makeCut);
    static final List<Scene> ALL = List.of(NEW, BUSY, EIGHT, SIXTEEN, SIXTEEN_AND_NO_BLOCK, NO_BLOCK, ONE_BLOCK,
            TWO_BLOCKS, ENDED, CUT);

    Scene then(String more, Consumer<Calls> calls) {
        return new Scene(name + ", " + more, blocks, making.andThen(calls));
    }

    Calls real() {
        Calls calls = new Library(blocks);
        making.accept(calls);
        return calls;
    }

    Calls model() {
        Calls calls = new Model(blocks);
        making.accept(calls);
        return calls;
    }

    /** Numbers 0, 1 and 3; pictures 0 (whole), 1 (half), 2 (none), 3 (whole, and there as 0); all found; old bytes. */
    private static void makeBusy(Calls c) {
        Check.keep(c, 3, 2, 10, 40);
        Check.keep(c, 8, 8, 0, 3);
        Check.keep(c, 1, 1, 9, 0);
        Check.keep(c, 2, 1, 4, 9);
        c.drop(2);
        Check.make(c, 4, 4, 1, 17);
        c.samples(c.picture(2, 2), 2, 250, 3);
        c.picture(8, 8);
        Check.make(c, 3, 2, 10, 40);
        c.poke(10, 5, 2);
        c.poke(11, 63, 129);
        c.near(0, 64);
        c.fuse(700);
    }

    private static void makeEight(Calls c) {
        Check.keep(c, 3, 2, 10, 40);
        for (int i = 0; i < 8; i++) {
            c.samples(c.picture(1 + i, 8 - i), 1 + 2 * i, i, 30);
        }
        c.samples(0, 64, 7, 7);
        c.near(0, 64);
    }

    /** Pictures 0 (whole), 1 (whole, and there as 15) and 2 (none). */
    private static void makeSixteen(Calls c) {
        for (int i = 0; i < 16; i++) {
            Check.keep(c, 2, 1, 5 * i, 7 - i);
        }
        Check.make(c, 5, 5, 1, 11);
        Check.make(c, 2, 1, 75, -8);
        c.picture(2, 2);
        c.near(0, 64);
        if (c.told(1) > 0) {
            c.poke(c.told(0) - 1, 5, 3);
        }
    }

    /** Pictures 0 (whole, of two blocks with its mark), 1 (whole, of three), 2 (whole, and there as 1), 3 (half). */
    private static void makeTwoSmall(Calls c) {
        Check.keep(c, 3, 2, 10, 40);
        Check.keep(c, 7, 7, 10, 40);
        Check.make(c, 1, 1, 5, 0);
        Check.make(c, 7, 8, 5, 1);
        Check.make(c, 7, 7, 10, 40);
        c.samples(c.picture(2, 2), 3, 0, 1);
        c.near(1, 64);
        for (int block = 4; block < c.told(0); block++) {
            c.poke(block, 5, 2);
            c.poke(block, 9, 200);
        }
    }

    private static void makeEnded(Calls c) {
        makeBusy(c);
        c.fuse(0);
    }

    private static void makeCut(Calls c) {
        makeBusy(c);
        c.fuse(100);
        c.keep(0);
    }
}
