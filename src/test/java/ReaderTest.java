import java.util.NoSuchElementException;

/** Promises 21 to 24: reader, learn, teach, word. */
final class ReaderTest {
    public static void main(String[] args) {
        readers();
        learn();
        learnWrong();
        teach();
        teachWrong();
        wordWrong();
        manyNames();
        nameOfZero();
        namesBelowZero();
        Check.end();
    }

    /** A main cord, and three cords of unlike names. */
    private static Quipuhall withNames() {
        Quipuhall x = new Quipuhall();
        x.main();
        for (int i = 1; i <= 3; i++) {
            x.hang(0, 'h', 0, 'c');
            x.tie(i, 0, 'n', i);
        }
        return x;
    }

    private static void readers() {
        Quipuhall x = new Quipuhall();
        for (int i = 0; i < 6; i++) {
            Check.same("reader", () -> x.reader(), i);
        }
        Check.refused("reader 7", IllegalStateException.class, () -> x.reader());
        Check.same("six readers", () -> x.teach(5, 0), 0);
        Check.refused("no seventh", IndexOutOfBoundsException.class, () -> x.teach(6, 0));
    }

    private static void learn() {
        Quipuhall x = withNames();
        x.reader();
        x.reader();
        Check.same("learn", () -> x.learn(0, 1, 0), 1);
        Check.same("learn", () -> x.learn(0, 2, 99), 2);
        Check.same("word", () -> x.word(0, 1), 0);
        Check.same("word", () -> x.word(0, 2), 99);
        Check.refused("another reader", NoSuchElementException.class, () -> x.word(1, 1));
        Check.same("another reader", () -> x.learn(1, 1, 5), 1);
        Check.same("each has words", () -> x.word(0, 1), 0);
        Check.same("each has words", () -> x.word(1, 1), 5);
        Check.refused("the word 0 is known", UnsupportedOperationException.class,
                () -> x.learn(0, 1, 6));
        Check.same("one word for two names", () -> x.learn(0, 3, 99), 3);
        x.tie(3, 0, 'n', 1);
        Check.same("a name is of knots, not of a cord", () -> x.word(0, 3), 0);
        x.tie(3, 0, 'n', 4);
        Check.refused("another name", NoSuchElementException.class, () -> x.word(0, 3));
    }

    private static void learnWrong() {
        Quipuhall x = withNames();
        Check.refused("no reader", IndexOutOfBoundsException.class, () -> x.learn(0, 1, 1));
        x.reader();
        for (int wrong : new int[] {-1, Integer.MIN_VALUE, Integer.MAX_VALUE}) {
            Check.refused("reader", IndexOutOfBoundsException.class, () -> x.learn(wrong, 1, 1));
            Check.refused("cord", IndexOutOfBoundsException.class, () -> x.learn(0, wrong, -1));
            Check.refused("word", IllegalArgumentException.class, () -> x.learn(0, 1, wrong));
        }
        Check.refused("reader", IndexOutOfBoundsException.class, () -> x.learn(1, 1, 100));
        Check.refused("cord", IndexOutOfBoundsException.class, () -> x.learn(0, 4, 100));
        Check.refused("a word before a number", IllegalArgumentException.class,
                () -> x.learn(0, 0, 100));
        Check.refused("a number", UnsupportedOperationException.class, () -> x.learn(0, 0, 1));
        Check.same("learn", () -> x.learn(0, 1, 7), 1);
        Check.refused("a known name", UnsupportedOperationException.class,
                () -> x.learn(0, 1, 7));
        Check.refused("a known name", UnsupportedOperationException.class,
                () -> x.learn(0, 1, 8));
        Check.same("the first word stays", () -> x.word(0, 1), 7);
        Check.same("a refused name does not count", () -> x.learn(0, 2, 7), 2);
    }

    private static void teach() {
        Quipuhall x = withNames();
        x.reader();
        x.reader();
        x.reader();
        Check.same("nothing to teach", () -> x.teach(0, 1), 0);
        x.learn(0, 1, 10);
        x.learn(0, 2, 20);
        x.learn(1, 2, 21);
        Check.same("only what is not known", () -> x.teach(0, 1), 1);
        Check.same("the first word stays", () -> x.word(1, 2), 21);
        Check.same("a taught word", () -> x.word(1, 1), 10);
        Check.same("nothing more", () -> x.teach(0, 1), 0);
        Check.same("nothing back", () -> x.teach(1, 0), 0);
        Check.same("a taught word is taught on", () -> x.teach(1, 2), 2);
        Check.same("a taught word", () -> x.word(2, 2), 21);
        Check.same("what is taught counts", () -> x.learn(2, 3, 1), 3);
        Check.refused("what is taught is known", UnsupportedOperationException.class,
                () -> x.learn(2, 1, 1));
    }

    private static void teachWrong() {
        Quipuhall x = withNames();
        Check.refused("no reader", IndexOutOfBoundsException.class, () -> x.teach(0, 0));
        x.reader();
        Check.refused("the same", IllegalArgumentException.class, () -> x.teach(0, 0));
        for (int wrong : new int[] {-1, 1, Integer.MIN_VALUE, Integer.MAX_VALUE}) {
            Check.refused("reader", IndexOutOfBoundsException.class, () -> x.teach(wrong, 0));
            Check.refused("other", IndexOutOfBoundsException.class, () -> x.teach(0, wrong));
            Check.refused("both", IndexOutOfBoundsException.class, () -> x.teach(wrong, wrong));
        }
    }

    private static void wordWrong() {
        Quipuhall x = withNames();
        Check.refused("no reader", IndexOutOfBoundsException.class, () -> x.word(0, 1));
        x.reader();
        for (int wrong : new int[] {-1, 4, Integer.MIN_VALUE, Integer.MAX_VALUE}) {
            Check.refused("reader", IndexOutOfBoundsException.class, () -> x.word(wrong, 0));
            Check.refused("cord", IndexOutOfBoundsException.class, () -> x.word(0, wrong));
        }
        Check.refused("a number", UnsupportedOperationException.class, () -> x.word(0, 0));
        Check.refused("not known", NoSuchElementException.class, () -> x.word(0, 1));
        x.learn(0, 1, 1);
        x.write(1, 1);
        Check.refused("a number now", UnsupportedOperationException.class, () -> x.word(0, 1));
    }

    /** Ties knots that are no number, and whose name is 0. */
    private static void tieZero(Quipuhall x, int cord) {
        x.tie(cord, 1, 'n', 1);
        x.tie(cord, 5, 's', 1);
        x.tie(cord, 3, 's', 8);
    }

    // 0 is a name like another one: it is not known before it is learned.
    private static void nameOfZero() {
        Quipuhall x = withNames();
        tieZero(x, 0);
        x.reader();
        x.reader();
        Check.same("name", () -> x.name(0), 0);
        Check.refused("a new reader", NoSuchElementException.class, () -> x.word(0, 0));
        Check.same("nothing to teach", () -> x.teach(0, 1), 0);
        x.learn(0, 1, 4);
        Check.refused("another name is known", NoSuchElementException.class,
                () -> x.word(0, 0));
        Check.same("one to teach", () -> x.teach(0, 1), 1);
        Check.refused("what was taught is another name", NoSuchElementException.class,
                () -> x.word(1, 0));
        Check.same("learn", () -> x.learn(0, 0, 0), 2);
        Check.same("the word 0 for the name 0", () -> x.word(0, 0), 0);
        Check.refused("known", UnsupportedOperationException.class, () -> x.learn(0, 0, 5));
        Check.same("it is taught", () -> x.teach(0, 1), 1);
        Check.same("it is taught", () -> x.word(1, 0), 0);
    }

    // A name is cast to short, so it may be below 0.
    private static void namesBelowZero() {
        Quipuhall x = withNames();
        x.reader();
        x.tie(0, 0, 'n', 3);
        x.tie(0, 3, 's', 9);
        Check.same("name", () -> x.name(0), (short) 0x9403);
        Check.refused("not known", NoSuchElementException.class, () -> x.word(0, 0));
        Check.same("learn", () -> x.learn(0, 0, 8), 1);
        Check.same("word", () -> x.word(0, 0), 8);
        x.tie(0, 3, 's', 1);
        Check.same("name", () -> x.name(0), 0x1403);
        Check.refused("not known", NoSuchElementException.class, () -> x.word(0, 0));
    }

    /** As many names as 512 calls can tell. */
    private static void manyNames() {
        Quipuhall x = new Quipuhall();
        x.main();
        x.reader();
        x.reader();
        x.tie(0, 6, 'n', 1);
        for (int place = 0; place < 3; place++) {
            x.tie(0, place, 's', 1);
        }
        // Each time the next place whose turn it is gets one knot more, so no knots come again.
        int[] knots = {1, 1, 1};
        for (int i = 1; i <= 250; i++) {
            int place = i % 81 == 0 ? 2 : i % 9 == 0 ? 1 : 0;
            knots[place] = knots[place] % 9 + 1;
            x.tie(0, place, 's', knots[place]);
            int count = i;
            Check.same("learn", () -> x.learn(0, 0, count % 100), count);
        }
        Check.same("the last word", () -> x.word(0, 0), 50);
        Check.same("all are taught", () -> x.teach(0, 1), 250);
    }
}
