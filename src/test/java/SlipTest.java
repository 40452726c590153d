import java.util.Arrays;
import java.util.NoSuchElementException;

/** Promises 17 and 18: likely, likelyAt. */
final class SlipTest {
    public static void main(String[] args) {
        none();
        sums();
        places();
        twoQuarrels();
        groupsAhead();
        differences();
        fragments();
        unknown();
        strangeSums();
        largeThenSmall();
        eachDigit();
        wrong();
        Check.end();
    }

    /** The changes are just these, told as cord, place and digit. */
    private static void changes(String what, Quipuhall x, int root, int... due) {
        Check.same(what, () -> x.likely(root), due.length / 3);
        for (int i = 0; i < due.length / 3; i++) {
            int index = i;
            Check.same(what + " cord", () -> x.likelyAt(root, index, 'c'), due[3 * i]);
            Check.same(what + " place", () -> x.likelyAt(root, index, 'p'), due[3 * i + 1]);
            Check.same(what + " digit", () -> x.likelyAt(root, index, 'd'), due[3 * i + 2]);
        }
        Check.refused(what, NoSuchElementException.class,
                () -> x.likelyAt(root, due.length / 3, 'c'));
    }

    private static Quipuhall withCounts(int main, int... values) {
        Quipuhall x = new Quipuhall();
        x.main();
        x.write(0, main);
        for (int i = 0; i < values.length; i++) {
            x.hang(0, 'h', 0, 'c');
            x.write(i + 1, values[i]);
        }
        return x;
    }

    private static void none() {
        changes("nothing quarrels", withCounts(42, 12, 30), 0);
        Quipuhall x = withCounts(43, 12, 30);
        Check.same("asked without their number", () -> x.likelyAt(0, 1, 'd'), 3);
        x.write(0, 44);
        Check.same("asked without their number", () -> x.likelyAt(0, 1, 'd'), 4);
        changes("nothing is due", withCounts(42), 0);
        changes("two digits are wrong", withCounts(99, 12, 30), 0);
    }

    private static void sums() {
        changes("one too many", withCounts(43, 12, 30), 0, 0, 0, 2, 1, 0, 3, 2, 0, 1);
        changes("from no knot", withCounts(0, 5), 0, 0, 0, 5, 1, 0, 0);
        changes("to no knot", withCounts(41, 1, 41), 0, 0, 0, 2, 1, 0, 0, 2, 0, 0);
        changes("no digit below 0", withCounts(5, 0, 7), 0, 0, 0, 7, 2, 0, 5);
        changes("no digit above 9", withCounts(12, 9, 1), 0, 0, 0, 0, 2, 0, 3);
        changes("nine more", withCounts(9, 0, 0), 0, 0, 0, 0, 1, 0, 9, 2, 0, 9);
        changes("nine less, and no room for nine more", withCounts(19, 1, 9), 0, 0, 0, 0);
    }

    private static void places() {
        changes("the highest place", withCounts(9000000, 0), 0, 0, 6, 0, 1, 6, 9);
        changes("ten is another place", withCounts(10, 0, 0), 0, 0, 1, 0, 1, 1, 1, 2, 1, 1);
        changes("three places", withCounts(300, 0, 0), 0, 0, 2, 0, 1, 2, 3, 2, 2, 3);
        changes("eleven is no digit", withCounts(11, 0, 0), 0);
        changes("no place for ten millions", withCounts(0, 5000000, 5000000), 0);
        changes("five millions", withCounts(5000000, 5000000, 5000000), 0,
                1, 6, 0, 2, 6, 0);
    }

    private static void twoQuarrels() {
        Quipuhall x = new Quipuhall();
        x.main();
        x.hang(0, 'h', 0, 's');
        x.hang(1, 'h', 0, 'c');
        x.hang(1, 'h', 0, 'c');
        x.write(2, 10);
        x.write(3, 20);
        x.write(1, 31);
        x.write(0, 30);
        changes("a sum between", x, 0, 1, 0, 0);
        x.write(0, 31);
        changes("a sum above", x, 0, 2, 0, 1, 3, 0, 1);
        x.write(0, 34);
        changes("two quarrels of their own", x, 0);
    }

    private static void groupsAhead() {
        Quipuhall x = new Quipuhall();
        x.main();
        x.hang(0, 'h', 0, 'c');
        x.hang(0, 'h', 0, 'c');
        x.write(1, 4);
        x.write(2, 5);
        x.group(0);
        x.hang(0, 't', 0, 'g');
        x.hang(0, 't', 0, 'g');
        x.write(3, 10);
        x.write(4, 10);
        x.write(0, 29);
        changes("both sums of a group, but not the main cord", x, 0);
        x.write(0, 30);
        changes("all sums", x, 0, 1, 0, 5, 2, 0, 6);
        x.write(3, 9);
        x.write(0, 28);
        changes("one sum of a group, and the main cord", x, 0);
        x.write(4, 9);
        x.write(0, 26);
        changes("the main cord alone", x, 0, 0, 0, 7);
    }

    private static void differences() {
        Quipuhall x = new Quipuhall();
        x.main();
        x.hang(0, 'h', 0, 'd');
        x.hang(1, 'h', 0, 'c');
        x.hang(1, 'h', 0, 'c');
        x.write(2, 50);
        x.write(3, 20);
        x.write(1, 33);
        x.write(0, 33);
        changes("the first one more, or another less", x, 0, 2, 0, 3);
        x.write(3, 24);
        x.write(1, 29);
        x.write(0, 29);
        changes("the first one more, or another less", x, 0, 2, 0, 3, 3, 0, 1);
        x.write(1, 26);
        changes("the main cord and it are cleared by no count", x, 0, 0, 0, 6);
        Check.same("a question changes nothing", () -> x.value(0), 29);
        Check.same("a question changes nothing", () -> x.value(1), 26);
    }

    private static void fragments() {
        Quipuhall x = new Quipuhall();
        x.main();
        x.hang(0, 'h', 0, 's');
        x.hang(1, 'h', 0, 'c');
        x.write(2, 7);
        x.write(1, 8);
        x.write(0, 9);
        Check.same("two quarrels", () -> x.likely(0), 0);
        x.cut(1);
        changes("a fragment", x, 1, 1, 0, 7, 2, 0, 8);
        changes("nothing on the main cord", x, 0);
        x.hang(0, 'h', 0, 'c');
        changes("other trees count nothing", x, 0, 0, 0, 0, 3, 0, 9);
        x.hang(2, 'h', 0, 'g');
        changes("a group sum without one ahead", x, 1, 1, 0, 7, 2, 0, 8);
    }

    private static void unknown() {
        Quipuhall x = withCounts(43, 12, 30);
        x.tie(2, 5, 'n', 1);
        changes("a due that is unknown", x, 0);
        x.hang(0, 'h', 0, 's');
        x.hang(3, 'h', 0, 'c');
        x.write(3, 4);
        changes("cords of no unknown due change freely", x, 0, 3, 0, 0, 4, 0, 4);
        x.tie(4, 3, 'l', 2);
        changes("no number is not changed", x, 0);
    }

    // 'A cord quarrels if it is a number', so a strange sum never does, whatever is due for it.
    private static void strangeSums() {
        for (int count = 0; count <= 3; count++) {
            Quipuhall x = withCounts(0, count);
            x.tie(0, 0, 's', 1);
            changes("a strange main cord", x, 0);
        }
        Quipuhall y = withCounts(43, 12, 30);
        y.hang(2, 'h', 0, 's');
        y.hang(3, 'h', 0, 'c');
        y.tie(3, 4, 'n', 1);
        changes("a strange sum beside", y, 0, 0, 0, 2, 1, 0, 3, 2, 0, 1);
        y.write(4, 5);
        changes("what is due for it counts nothing", y, 0, 0, 0, 2, 1, 0, 3, 2, 0, 1);
        y.write(3, 4);
        changes("a number again", y, 0);
    }

    // What a question finds on one tree counts nothing on another one, of more or fewer cords.
    private static void largeThenSmall() {
        Quipuhall x = new Quipuhall();
        x.main();
        for (int i = 1; i <= 9; i++) {
            x.hang(0, 'h', 0, 's');
            x.hang(i == 1 ? 1 : 2 * i - 1, 'h', 0, 'c');
            x.write(2 * i - 1, i);
        }
        x.main();
        x.hang(19, 'h', 0, 'c');
        // With it the small tree ends where the large one has a sum, which quarrels.
        x.hang(20, 'h', 0, 'c');
        x.write(20, 5);
        for (int i = 0; i < 2; i++) {
            changes("many quarrels", x, 0);
            changes("one quarrel", x, 19, 19, 0, 5, 20, 0, 0);
        }
        x.write(20, 0);
        changes("many quarrels", x, 0);
        changes("no quarrel", x, 19);
    }

    /** A main cord and two counts of one digit each, at each place, the changes found by trying. */
    private static void eachDigit() {
        for (int ten = 1; ten <= 1000000; ten *= 10) {
            for (int i = 0; i < 1000; i++) {
                int[] values = {i / 100 * ten, i / 10 % 10 * ten, i % 10 * ten};
                Quipuhall x = withCounts(values[0], values[1], values[2]);
                changes("digits " + i + " by " + ten, x, 0, tried(values));
            }
        }
    }

    /** Each change of a digit that makes the first value the sum of the others, if it is not. */
    private static int[] tried(int[] values) {
        int[] found = new int[9];
        int count = 0;
        boolean isWrong = values[0] != values[1] + values[2];
        for (int cord = 0; isWrong && cord < 3; cord++) {
            int before = values[cord];
            int ten = 1;
            for (int place = 0; place < 7; place++) {
                for (int digit = 0; digit < 10; digit++) {
                    values[cord] = before + (digit - before / ten % 10) * ten;
                    if (values[0] == values[1] + values[2]) {
                        found[count++] = cord;
                        found[count++] = place;
                        found[count++] = digit;
                    }
                }
                ten *= 10;
            }
            values[cord] = before;
        }
        return Arrays.copyOf(found, count);
    }

    private static void wrong() {
        Quipuhall x = withCounts(43, 12, 30);
        for (int cord : new int[] {-1, 3, Integer.MIN_VALUE, Integer.MAX_VALUE}) {
            Check.refused("likely", IndexOutOfBoundsException.class, () -> x.likely(cord));
            Check.refused("likelyAt", IndexOutOfBoundsException.class,
                    () -> x.likelyAt(cord, -1, 'q'));
        }
        Check.refused("likely", UnsupportedOperationException.class, () -> x.likely(1));
        for (char what : new char[] {'q', 'C', 'b', 'e', 'o', 0, 65535}) {
            Check.refused("likelyAt", IllegalArgumentException.class,
                    () -> x.likelyAt(1, -1, what));
        }
        Check.refused("likelyAt", UnsupportedOperationException.class,
                () -> x.likelyAt(1, -1, 'c'));
        for (int index : new int[] {-1, 3, Integer.MIN_VALUE, Integer.MAX_VALUE}) {
            Check.refused("likelyAt", NoSuchElementException.class,
                    () -> x.likelyAt(0, index, 'c'));
        }
    }
}
