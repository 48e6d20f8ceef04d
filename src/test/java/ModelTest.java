import java.util.Random;
import java.util.function.ToLongFunction;

/** Long mixed runs of calls, the same on the class and on a plain model, from seeds that never change. */
public final class ModelTest {
    private static final int RUNS = 1500;
    /** A step makes some seventy calls at most: an object has room for them, and for looking, behind so many. */
    private static final int MOST_CALLS = 400;
    private static final int[] BLOCKS = {0, 1, 2, 3, 4, 5, 6, 8, 12, 20, 39, 40, 41};

    private final Random random;
    private final Library x;
    private final Model model;
    private final int blocks;
    private String call = "";

    private ModelTest(int seed) {
        random = new Random(seed);
        int made = BLOCKS[random.nextInt(BLOCKS.length)];
        x = new Library(made);
        model = new Model(made);
        blocks = x.told(0);
    }

    public static void main(String[] args) {
        for (int seed = 0; seed < RUNS; seed++) {
            ModelTest run = new ModelTest(seed);
            for (int i = 0; run.x.runLength() < MOST_CALLS; i++) {
                run.step();
                run.look("run " + seed + ", step " + i + ", behind " + run.call);
            }
            run.lookAtBytes("run " + seed);
        }
        Check.finish();
    }

    private void step() {
        int what = random.nextInt(100);
        if (what < 40) {
            keepSome();
        } else if (what < 46) {
            int n = number();
            both("drop(" + n + ")", c -> c.drop(n));
        } else if (what < 50) {
            both("sweep()", c -> c.sweep());
        } else if (what < 60) {
            int f = random.nextInt(3) == 0 ? random.nextInt(5) - 3 : random.nextInt(400);
            both("fuse(" + f + ")", c -> c.fuse(f));
        } else if (what < 72) {
            both("reopen()", c -> c.reopen());
        } else if (what < 80) {
            pokeSome();
        } else if (what < 86) {
            forgeSome();
        } else {
            nearSome();
        }
    }

    private int number() {
        return random.nextInt(5) == 0 ? random.nextInt(18) - 1 : random.nextInt(4);
    }

    private void keepSome() {
        int p = makeSome();
        both("keep(" + p + ")", c -> c.keep(p));
    }

    /** Begins a picture and gives samples, mostly to that one: the picture's number. */
    private int makeSome() {
        int w = 1 + random.nextInt(8) - (random.nextInt(30) == 0 ? 1 : 0);
        int h = random.nextInt(4) == 0 ? 8 : 1 + random.nextInt(3);
        both("picture(" + w + ", " + h + ")", c -> c.picture(w, h));
        int p = random.nextInt(3) == 0 ? random.nextInt(3) : model.told(3) - 1;
        int n = random.nextInt(20) == 0 ? random.nextInt(5) - 1 : 64;
        int v = random.nextInt(3);
        int s = random.nextInt(3) * 50;
        both("samples(" + p + ", " + n + ", ..)", c -> c.samples(p, n, v, s));
        return p;
    }

    private void pokeSome() {
        int b = random.nextInt(Math.min(blocks + 1, 8));
        int i = random.nextInt(3) == 0 ? random.nextInt(65) : random.nextInt(9);
        int m = random.nextInt(2) == 0 ? 1 << random.nextInt(9) : random.nextInt(3);
        both("poke(" + b + ", " + i + ", " + m + ")", c -> c.poke(b, i, m));
        if (random.nextInt(2) == 0) {
            both("reopen()", c -> c.reopen());
            both("poke back", c -> c.poke(b, i, m));
        }
    }

    /** Makes a block good with a head that may or may not fit others. */
    private void forgeSome() {
        int place = random.nextInt(blocks);
        int from = random.nextInt(blocks);
        int[] block = Look.block(model, from);
        if (random.nextInt(3) == 0) {
            block[5] = random.nextInt(3);
        }
        if (random.nextInt(4) == 0) {
            block[4 + random.nextInt(5)] ^= 1 << random.nextInt(3);
        }
        Check.seal(place, block);
        for (int i = 0; i < 64; i++) {
            int at = i;
            int mask = model.byteAt(place, i) ^ block[i];
            if (mask != 0) {
                both("forging", c -> c.poke(place, at, mask));
            }
        }
        if (random.nextInt(2) == 0) {
            both("reopen()", c -> c.reopen());
        }
    }

    private void nearSome() {
        int p = makeSome();
        int bound = random.nextInt(68) - 1;
        both("near(" + p + ", " + bound + ")", c -> c.near(p, bound));
        for (int i = 0; i < 3; i++) {
            int k = random.nextInt(6) - 1;
            int what = random.nextInt(6) == 0 ? 2 : random.nextInt(2);
            both("found(" + k + ", " + what + ")", c -> c.found(k, what));
        }
    }

    private void look(String when) {
        x.looking(true);
        for (int what = 0; what < 7; what++) {
            Check.due(when + ": told(" + what + ")", x.told(what), model.told(what));
        }
        Check.due(when + ": badAt()", x.badAt(), model.badAt());
        int n = number();
        int i = random.nextInt(9);
        int column = random.nextInt(4);
        int row = random.nextInt(4);
        both("print(" + n + ")", c -> c.print(n));
        both("digest(" + n + ", " + i + ")", c -> c.digest(n, i));
        both("sample(" + n + ", ..)", c -> c.sample(n, column, row));
        int block = random.nextInt(blocks);
        int at = random.nextInt(64);
        both("byteAt(" + block + ", " + at + ")", c -> c.byteAt(block, at));
        x.looking(false);
    }

    private void lookAtBytes(String when) {
        for (int i = 0; i < blocks * 64; i++) {
            Check.due(when + ": byte " + i, x.byteAt(i / 64, i % 64), model.byteAt(i / 64, i % 64));
        }
    }

    private void both(String name, ToLongFunction<Calls> body) {
        call = name;
        Check.dueSame(name, Check.answer(model, body), Check.answer(x, body));
    }
}
