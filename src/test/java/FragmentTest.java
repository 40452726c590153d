import java.util.NoSuchElementException;

/** Promises 40 to 43: cut, fits, matches, join. */
final class FragmentTest {
    public static void main(String[] args) {
        cut();
        cutWrong();
        fitsBySums();
        fitsByColours();
        fitsByRole();
        fitsByGroup();
        fitsByHeight();
        fitsNotItself();
        fitsUnknown();
        matches();
        join();
        joinKeeps();
        wrong();
        Check.end();
    }

    private static void cut() {
        Quipuhall x = new Quipuhall();
        x.main();
        x.hang(0, 'h', 0, 's');
        x.hang(1, 'h', 0, 's');
        x.hang(2, 'h', 0, 'c');
        x.hang(0, 'h', 0, 'c');
        Check.same("cut", () -> x.cut(1), 3);
        Check.same("on none", () -> x.on(1), -1);
        Check.same("what is on it stays", () -> x.on(2), 1);
        Check.same("gone from its group", () -> x.cordAt(0, 1), 4);
        Check.same("gone from its group", () -> x.size(0), 2);
        Check.same("cut from a fragment", () -> x.cut(2), 2);
        Check.same("cut a leaf", () -> x.cut(3), 1);
        Check.same("size", () -> x.size(1), 1);
        Check.same("sound", () -> x.isSound(), true);
        x.write(4, 3);
        Check.same("due", () -> x.due(0), 3);
    }

    private static void cutWrong() {
        Quipuhall x = new Quipuhall();
        Check.refused("no cord", IndexOutOfBoundsException.class, () -> x.cut(0));
        x.main();
        x.hang(0, 'h', 0, 's');
        for (int wrong : new int[] {-1, 2, Integer.MIN_VALUE, Integer.MAX_VALUE}) {
            Check.refused("cut", IndexOutOfBoundsException.class, () -> x.cut(wrong));
        }
        Check.refused("a main cord", UnsupportedOperationException.class, () -> x.cut(0));
        x.cut(1);
        Check.refused("a fragment", UnsupportedOperationException.class, () -> x.cut(1));
    }

    /** A main cord of the value, a cord on it of the other, and a fragment of the third. */
    private static Quipuhall with(int main, int on, int fragment) {
        Quipuhall x = new Quipuhall();
        x.main();
        x.hang(0, 'h', 0, 'c');
        x.hang(0, 'h', 0, 'c');
        x.write(0, main);
        x.write(1, on);
        x.write(2, fragment);
        x.cut(2);
        return x;
    }

    private static void fitsBySums() {
        Check.same("the sum agrees", () -> with(42, 12, 30).fits(2, 0), true);
        Check.same("the sum does not", () -> with(41, 12, 30).fits(2, 0), false);
        Check.same("it agrees without it", () -> with(12, 12, 30).fits(2, 0), false);
        Quipuhall x = with(30, 0, 30);
        x.cut(1);
        Check.same("alone on it", () -> x.fits(2, 0), true);
        Check.same("another fragment", () -> x.fits(1, 0), false);
        Quipuhall y = with(42, 12, 20);
        y.group(0);
        y.hang(0, 't', 0, 'c');
        y.write(3, 10);
        y.group(0);
        Check.refused("no such", UnsupportedOperationException.class, () -> y.fits(1, 0));
        Check.same("the sum of all groups", () -> y.fits(2, 0), true);
    }

    private static void fitsByColours() {
        Quipuhall x = new Quipuhall();
        x.main();
        int[] colours = {0, 7, 56, 448, 511, 73, 1, 146, 64, 8};
        boolean[] due = {true, true, true, true, false, false, true, false, true, true};
        for (int i = 0; i < colours.length; i++) {
            int cord = x.hang(0, 'h', colours[i], 'c');
            x.cut(cord);
            boolean like = due[i];
            Check.same("like white " + colours[i], () -> x.fits(cord, 0), like);
        }
        Quipuhall y = new Quipuhall();
        y.main();
        y.hang(0, 'h', 1 + 2 * 8 + 3 * 64, 's');
        int[] others = {2 + 3 * 8 + 1 * 64, 1, 2 * 8, 3 * 64, 7 + 7 * 8 + 3 * 64,
            3 + 1 * 8 + 2 * 64, 5 + 3 * 8 + 2 * 64, 1 + 512 - 512, 9 + 64 * 5};
        boolean[] like = {false, true, true, true, true, false, false, true, true};
        for (int i = 0; i < others.length; i++) {
            int cord = y.hang(0, 'h', others[i], 'c');
            y.cut(cord);
            boolean fits = like[i];
            Check.same("like bands at the same place " + others[i],
                    () -> y.fits(cord, 1), fits);
        }
    }

    private static void fitsByRole() {
        for (char role : new char[] {'c', 's', 'g', 'd'}) {
            Quipuhall x = new Quipuhall();
            x.main();
            x.hang(0, 'h', 0, role);
            x.hang(0, 'h', 0, role);
            x.cut(2);
            Check.same("only on sums " + role, () -> x.fits(2, 1), role == 's');
            Check.same("the fragment has any role " + role, () -> x.fits(2, 0), true);
        }
    }

    private static void fitsByGroup() {
        Quipuhall x = new Quipuhall();
        x.main();
        x.main();
        for (int i = 0; i < 9; i++) {
            x.hang(0, 'h', 0, 'c');
        }
        x.hang(1, 'h', 0, 'c');
        x.cut(11);
        Check.same("nine in the last group", () -> x.fits(11, 0), false);
        x.cut(2);
        Check.same("eight in the last group", () -> x.fits(11, 0), true);
        x.group(0);
        x.hang(0, 't', 0, 'c');
        Check.same("the other sort", () -> x.fits(11, 0), false);
        x.cut(12);
        Check.same("an empty last group", () -> x.fits(11, 0), true);
        Check.same("an empty last group, the other sort", () -> x.fits(12, 0), true);
        x.join(12, 0);
        Check.same("the sort that it had", () -> x.fits(11, 0), false);
        x.cut(12);
        x.join(11, 0);
        Check.same("the sort that it had", () -> x.fits(12, 0), false);
        Check.same("the sort that it had", () -> x.fits(2, 0), true);
    }

    private static void fitsByHeight() {
        Quipuhall x = new Quipuhall();
        x.main();
        for (int i = 0; i < 4; i++) {
            x.hang(i, 'h', 0, 's');
        }
        x.main();
        for (int i = 5; i < 9; i++) {
            x.hang(i, 'h', 0, 's');
        }
        // The cords 6 to 9 are a fragment, three steps high; its leaf 9 makes another one.
        x.cut(6);
        Check.same("on a main cord", () -> x.fits(6, 0), true);
        Check.same("one step too high", () -> x.fits(6, 1), false);
        Check.same("too high", () -> x.fits(6, 4), false);
        x.cut(9);
        Check.same("two steps on one", () -> x.fits(6, 1), true);
        Check.same("two steps on two", () -> x.fits(6, 2), false);
        Check.same("a leaf on three", () -> x.fits(9, 3), true);
        Check.same("a leaf on four", () -> x.fits(9, 4), false);
        x.cut(1);
        Check.same("steps from a fragment", () -> x.fits(9, 4), true);
        Check.same("steps from a fragment", () -> x.fits(6, 2), true);
    }

    private static void fitsNotItself() {
        Quipuhall x = new Quipuhall();
        x.main();
        x.hang(0, 'h', 0, 's');
        x.hang(1, 'h', 0, 's');
        x.hang(2, 'h', 0, 's');
        x.cut(1);
        Check.same("itself", () -> x.fits(1, 1), false);
        Check.same("on it", () -> x.fits(1, 2), false);
        Check.same("on what is on it", () -> x.fits(1, 3), false);
        Check.same("another one", () -> x.fits(1, 0), true);
        Check.same("matches", () -> x.matches(1), 1);
        x.cut(3);
        Check.same("another fragment", () -> x.fits(1, 3), true);
        Check.same("another fragment", () -> x.fits(3, 2), true);
    }

    private static void fitsUnknown() {
        Quipuhall x = with(42, 12, 31);
        Check.same("it would quarrel", () -> x.fits(2, 0), false);
        x.tie(2, 3, 'n', 1);
        Check.same("what is due would be unknown", () -> x.fits(2, 0), true);
        x.write(2, 31);
        x.tie(1, 3, 'n', 1);
        Check.same("what is due would be unknown", () -> x.fits(2, 0), true);
        x.write(1, 12);
        x.write(2, 30);
        x.tie(0, 3, 'n', 1);
        Check.same("it must be a number", () -> x.fits(2, 0), false);
        x.tie(2, 3, 'n', 1);
        Check.same("it must be a number, what is due unknown or not", () -> x.fits(2, 0), false);
        x.tie(1, 0, 's', 1);
        Check.same("all are no numbers", () -> x.fits(2, 0), false);
        Check.same("all are no numbers", () -> x.matches(2), 0);
        x.write(0, 5);
        Check.same("only the sum is a number", () -> x.join(2, 0), 2);
        Check.refused("what is due is unknown then", NoSuchElementException.class,
                () -> x.due(0));
        Check.same("so it does not quarrel", () -> x.isQuarrelling(0), false);
    }

    private static void matches() {
        Quipuhall x = with(42, 12, 30);
        x.main();
        x.write(3, 30);
        x.main();
        x.hang(4, 'h', 0, 's');
        x.write(5, 30);
        Check.same("three", () -> x.matches(2), 3);
        x.write(5, 31);
        Check.same("two", () -> x.matches(2), 2);
        x.write(0, 0);
        x.write(3, 0);
        Check.same("none", () -> x.matches(2), 0);
        x.write(4, 30);
        x.write(5, 30);
        x.cut(5);
        Check.same("a main cord and a fragment", () -> x.matches(2), 2);
    }

    private static void join() {
        Quipuhall x = with(42, 12, 30);
        long before = x.checksum();
        Check.refused("a count", UnsupportedOperationException.class, () -> x.join(2, 1));
        Check.same("what is refused joins none", () -> x.checksum(), before);
        Check.same("join", () -> x.join(2, 0), 2);
        Check.same("on", () -> x.on(2), 0);
        Check.same("at the end", () -> x.cordAt(0, 2), 2);
        Check.refused("no fragment any more", UnsupportedOperationException.class,
                () -> x.join(2, 0));
        x.cut(1);
        Check.same("join", () -> x.join(1, 0), 2);
        Check.same("at the end", () -> x.cordAt(0, 1), 2);
        Check.same("at the end", () -> x.cordAt(0, 2), 1);
        x.cut(1);
        x.group(0);
        Check.same("in the last group", () -> x.join(1, 0), 1);
        Check.same("sound", () -> x.isSound(), true);
    }

    private static void joinKeeps() {
        Quipuhall x = new Quipuhall();
        x.main();
        x.hang(0, 'h', 0, 'c');
        x.group(0);
        x.hang(0, 'h', 0, 'g');
        x.hang(2, 't', 0, 'c');
        x.write(1, 5);
        x.write(2, 5);
        x.write(3, 9);
        x.write(0, 10);
        Check.same("due", () -> x.due(2), 5);
        Check.same("cut", () -> x.cut(2), 2);
        Check.refused("nothing due", NoSuchElementException.class, () -> x.due(2));
        Check.same("it does not quarrel", () -> x.quarrel(2), -1);
        Check.same("join", () -> x.join(2, 0), 1);
        Check.same("its role is kept", () -> x.due(2), 5);
        Check.same("what is on it is kept", () -> x.on(3), 2);
        x.cut(1);
        x.cut(2);
        x.main();
        x.write(4, 5);
        Check.same("join another tree", () -> x.join(2, 4), 1);
        Check.refused("no group ahead there", NoSuchElementException.class, () -> x.due(2));
        Check.same("size", () -> x.size(4), 3);
        Check.same("size", () -> x.size(0), 1);
        Check.refused("four steps", UnsupportedOperationException.class, () -> x.size(2));
    }

    private static void wrong() {
        Quipuhall x = with(42, 12, 30);
        for (int wrong : new int[] {-1, 3, Integer.MIN_VALUE, Integer.MAX_VALUE}) {
            Check.refused("fits", IndexOutOfBoundsException.class, () -> x.fits(wrong, 0));
            Check.refused("fits", IndexOutOfBoundsException.class, () -> x.fits(2, wrong));
            Check.refused("fits", IndexOutOfBoundsException.class, () -> x.fits(0, wrong));
            Check.refused("matches", IndexOutOfBoundsException.class, () -> x.matches(wrong));
            Check.refused("join", IndexOutOfBoundsException.class, () -> x.join(wrong, 0));
            Check.refused("join", IndexOutOfBoundsException.class, () -> x.join(2, wrong));
            Check.refused("join", IndexOutOfBoundsException.class, () -> x.join(0, wrong));
        }
        for (int cord = 0; cord < 2; cord++) {
            int none = cord;
            Check.refused("fits", UnsupportedOperationException.class, () -> x.fits(none, 0));
            Check.refused("matches", UnsupportedOperationException.class,
                    () -> x.matches(none));
            Check.refused("join", UnsupportedOperationException.class, () -> x.join(none, 0));
        }
        // These would agree by sums and colours, but are no fragments.
        Quipuhall y = new Quipuhall();
        y.main();
        y.main();
        y.hang(0, 'h', 0, 's');
        for (int cord = 0; cord < 3; cord++) {
            int none = cord;
            Check.refused("no fragment", UnsupportedOperationException.class,
                    () -> y.join(none, 1 - none / 2));
            Check.refused("no fragment", UnsupportedOperationException.class,
                    () -> y.fits(none, 1 - none / 2));
        }
        Check.same("nothing is joined", () -> y.size(0), 2);
    }
}
