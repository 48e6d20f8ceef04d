/** The calls of the document's face, so that the same run goes to the class and to the plain model. */
interface Calls {
    int picture(int width, int height);

    int samples(int picture, int n, int v, int step);

    int keep(int picture);

    int digest(int number, int i);

    long print(int number);

    int sample(int number, int x, int y);

    int near(int picture, int bound);

    int found(int k, int what);

    int drop(int number);

    int sweep();

    int fuse(int bytes);

    int reopen();

    int poke(int block, int i, int mask);

    int badAt();

    int byteAt(int block, int i);

    int told(int what);

    static Calls of(ContentLibrary library) {
        return new Real(library);
    }

    record Real(ContentLibrary library) implements Calls {
        public int picture(int width, int height) {
            return library.picture(width, height);
        }

        public int samples(int picture, int n, int v, int step) {
            return library.samples(picture, n, v, step);
        }

        public int keep(int picture) {
            return library.keep(picture);
        }

        public int digest(int number, int i) {
            return library.digest(number, i);
        }

        public long print(int number) {
            return library.print(number);
        }

        public int sample(int number, int x, int y) {
            return library.sample(number, x, y);
        }

        public int near(int picture, int bound) {
            return library.near(picture, bound);
        }

        public int found(int k, int what) {
            return library.found(k, what);
        }

        public int drop(int number) {
            return library.drop(number);
        }

        public int sweep() {
            return library.sweep();
        }

        public int fuse(int bytes) {
            return library.fuse(bytes);
        }

        public int reopen() {
            return library.reopen();
        }

        public int poke(int block, int i, int mask) {
            return library.poke(block, i, mask);
        }

        public int badAt() {
            return library.badAt();
        }

        public int byteAt(int block, int i) {
            return library.byteAt(block, i);
        }

        public int told(int what) {
            return library.told(what);
        }
    }
}
