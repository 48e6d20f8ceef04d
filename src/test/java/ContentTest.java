/** Promise 5 (digest), promise 6 (print) and promise 7 (sample). */
public final class ContentTest {
    public static void main(String[] args) {
        ofEverySize();
        aDigestThatIsKnown();
        printsThatAreKnown();
        pokesChangeTheBlockAlone();
        whatIsRefused();
        nothingWhenCut();
        Check.finish();
    }

    private static void ofEverySize() {
        for (int width = 1; width <= 8; width++) {
            for (int height = 1; height <= 8; height++) {
                ContentLibrary x = new ContentLibrary(6);
                Check.keep(x, 1, 1, 200, 0);
                int number = Check.keep(x, width, height, 3 * width, 37 + 11 * height);
                dueContent(x, number, Check.message(width, height, 3 * width, 37 + 11 * height));
                x.reopen();
                dueContent(x, number, Check.message(width, height, 3 * width, 37 + 11 * height));
            }
        }
    }

    private static void dueContent(ContentLibrary x, int number, int[] message) {
        int width = message[0];
        int height = message[1];
        String of = "of " + width + " by " + height + ": ";
        int[] digest = Check.digest(message);
        for (int i = 0; i < 8; i++) {
            Check.due(of + "digest " + i, x.digest(number, i), digest[i]);
        }
        int sum = 0;
        for (int i = 0; i < width * height; i++) {
            Check.due(of + "sample " + i, x.sample(number, i % width, i / width), message[2 + i]);
            sum += message[2 + i];
        }
        for (int y = 0; y < 8; y++) {
            for (int x8 = 0; x8 < 8; x8++) {
                int sample = message[2 + y * height / 8 * width + x8 * width / 8];
                long bit = x.print(number) >>> (8 * y + x8) & 1;
                Check.due(of + "print at " + x8 + ", " + y, bit, sample * width * height > sum ? 1 : 0);
            }
        }
    }

    private static void aDigestThatIsKnown() {
        // The SHA-256 of the three bytes 1, 1, 0, as sha256sum tells it.
        int[] words = {0x9f44ac6a, 0xcb8a37b0, 0x0b615dc8, 0x9259d306, 0x035be82d, 0xee7db2b4, 0x72e4c483, 0x26195440};
        ContentLibrary x = new ContentLibrary(2);
        Check.keep(x, 1, 1, 0, 0);
        for (int i = 0; i < 8; i++) {
            Check.due("digest " + i, x.digest(0, i), words[i]);
        }
    }

    private static void printsThatAreKnown() {
        ContentLibrary x = new ContentLibrary(40);
        Check.due("one colour is never above", x.print(Check.keep(x, 8, 8, 255, 0)), 0L);
        Check.due("one sample", x.print(Check.keep(x, 1, 1, 255, 0)), 0L);
        Check.due("right half", x.print(Check.keep(x, 2, 1, 0, 1)), 0xF0F0F0F0F0F0F0F0L);
        Check.due("lower half", x.print(Check.keep(x, 1, 2, 0, 1)), 0xFFFFFFFF00000000L);
        Check.due("the last of three columns", x.print(Check.keep(x, 3, 1, 7, 7)), 0xC0C0C0C0C0C0C0C0L);
        Check.due("four rows of eight", x.print(Check.keep(x, 8, 8, 0, 1)), 0xFFFFFFFF00000000L);
    }

    private static void pokesChangeTheBlockAlone() {
        ContentLibrary x = new ContentLibrary(4);
        Check.keep(x, 2, 2, 10, 20);
        for (int block = 0; block < 2; block++) {
            for (int i = 0; i < 64; i++) {
                x.poke(block, i, 255);
            }
        }
        dueContent(x, 0, Check.message(2, 2, 10, 20));
        Check.due("numbers", x.told(2), 1);
        Check.due("free blocks", x.told(1), 2);
    }

    private static void whatIsRefused() {
        ContentLibrary x = new ContentLibrary(6);
        Check.keep(x, 3, 2, 1, 1);
        for (int number : new int[] {Integer.MIN_VALUE, -1, 1, 15, 16, Integer.MAX_VALUE}) {
            Check.dueRefusal(x, "digest(" + number + ", 0)", Check.INDEX, () -> x.digest(number, 0));
            Check.dueRefusal(x, "print(" + number + ")", Check.INDEX, () -> (int) x.print(number));
            Check.dueRefusal(x, "sample(" + number + ", 0, 0)", Check.INDEX, () -> x.sample(number, 0, 0));
        }
        for (int i : new int[] {Integer.MIN_VALUE, -1, 8, Integer.MAX_VALUE}) {
            Check.dueRefusal(x, "digest(0, " + i + ")", Check.INDEX, () -> x.digest(0, i));
        }
        int[][] places = {{-1, 0}, {3, 0}, {0, -1}, {0, 2}, {2, 2}, {Integer.MAX_VALUE, 0}, {0, Integer.MIN_VALUE}};
        for (int[] p : places) {
            Check.dueRefusal(x, "sample(0, " + p[0] + ", " + p[1] + ")", Check.INDEX, () -> x.sample(0, p[0], p[1]));
        }
    }

    private static void nothingWhenCut() {
        ContentLibrary x = new ContentLibrary(6);
        Check.keep(x, 3, 2, 1, 1);
        x.fuse(0);
        Check.keep(x, 3, 2, 2, 1);
        Check.dueRefusal(x, "digest", Check.STATE, () -> x.digest(0, 0));
        Check.dueRefusal(x, "digest of none", Check.STATE, () -> x.digest(-1, 9));
        Check.dueRefusal(x, "print", Check.STATE, () -> (int) x.print(0));
        Check.dueRefusal(x, "sample", Check.STATE, () -> x.sample(0, 0, 0));
    }
}
