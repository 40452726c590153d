import java.util.NoSuchElementException;

/** Promises 10 to 12 and 16: due, isQuarrelling, quarrel, counted. */
final class SumTest {
    public static void main(String[] args) {
        sums();
        sumsOfGroups();
        groupAhead();
        differences();
        counts();
        unknown();
        quarrels();
        largeSums();
        counted();
        wrong();
        Check.end();
    }

    private static void unknown(Quipuhall x, String what, int cord) {
        Check.refused(what, NoSuchElementException.class, () -> x.due(cord));
        Check.same(what, () -> x.isQuarrelling(cord), false);
    }

    private static void sums() {
        Quipuhall x = new Quipuhall();
        x.main();
        unknown(x, "a sum of none", 0);
        x.hang(0, 'h', 0, 'c');
        x.hang(0, 'h', 0, 's');
        x.hang(2, 'h', 0, 'c');
        x.write(1, 12);
        x.write(2, 30);
        x.write(3, 500);
        Check.same("a sum of those just on it", () -> x.due(0), 42);
        Check.same("a sum", () -> x.due(2), 500);
        x.write(0, 42);
        Check.same("it agrees", () -> x.isQuarrelling(0), false);
        Check.same("it does not", () -> x.isQuarrelling(2), true);
    }

    private static void sumsOfGroups() {
        Quipuhall x = new Quipuhall();
        x.main();
        for (int i = 1; i <= 4; i++) {
            x.hang(0, i % 2 == 0 ? 'h' : 't', 0, 'c');
            x.write(i, (int) Math.pow(10, i));
            if (i < 4) {
                x.group(0);
            }
        }
        Check.same("a sum of all groups", () -> x.due(0), 11110);
        x.cut(2);
        Check.same("an empty group counts nothing", () -> x.due(0), 11010);
        x.cut(1);
        x.cut(3);
        x.cut(4);
        unknown(x, "a sum of empty groups", 0);
    }

    private static void groupAhead() {
        Quipuhall x = new Quipuhall();
        x.main();
        x.hang(0, 'h', 0, 'g');
        x.hang(0, 'h', 0, 'c');
        x.write(1, 3);
        x.write(2, 4);
        unknown(x, "no group ahead", 1);
        x.group(0);
        x.hang(0, 't', 0, 'g');
        x.hang(0, 't', 0, 'c');
        x.write(4, 900);
        Check.same("the group ahead", () -> x.due(3), 7);
        x.group(0);
        x.hang(0, 'h', 0, 'g');
        x.hang(5, 'h', 0, 'c');
        x.write(6, 60000);
        Check.same("the group just ahead, nothing on it", () -> x.due(5), 900);
        x.tie(4, 5, 'n', 1);
        unknown(x, "one of the group ahead is no number", 5);
        Check.same("its own group may be no numbers", () -> x.due(3), 7);
        x.cut(3);
        x.cut(4);
        unknown(x, "the group ahead is empty", 5);
        unknown(x, "a fragment has no group ahead", 3);
    }

    private static void differences() {
        Quipuhall x = new Quipuhall();
        x.main();
        x.hang(0, 'h', 0, 'd');
        unknown(x, "a difference of none", 1);
        x.hang(1, 'h', 0, 'c');
        x.write(2, 50);
        Check.same("the first one alone", () -> x.due(1), 50);
        x.hang(1, 'h', 0, 'c');
        x.write(3, 20);
        x.group(1);
        x.hang(1, 't', 0, 'c');
        x.write(4, 100);
        Check.same("the first less all others", () -> x.due(1), -70);
        Check.same("what is due below 0", () -> x.isQuarrelling(1), true);
        x.write(4, 1);
        x.write(1, 29);
        Check.same("it agrees", () -> x.isQuarrelling(1), false);
        x.cut(2);
        Check.same("the next one is the first", () -> x.due(1), 19);
        x.cut(3);
        Check.same("the first one behind an empty group", () -> x.due(1), 1);
        x.tie(4, 1, 'l', 3);
        unknown(x, "the first is no number", 1);
    }

    private static void counts() {
        Quipuhall x = new Quipuhall();
        x.main();
        x.hang(0, 'h', 0, 'c');
        x.hang(1, 'h', 0, 'c');
        x.write(2, 5);
        unknown(x, "nothing is due for a count", 1);
        x.group(0);
        x.hang(0, 'h', 0, 'c');
        unknown(x, "nothing is due for a count", 3);
    }

    private static void unknown() {
        Quipuhall x = new Quipuhall();
        x.main();
        for (int i = 0; i < 3; i++) {
            x.hang(0, 'h', 0, 'c');
        }
        x.group(0);
        x.hang(0, 'h', 0, 'c');
        for (int cord = 1; cord <= 4; cord++) {
            x.tie(cord, 0, 's', 2);
            unknown(x, "one on it is no number", 0);
            x.write(cord, 2);
        }
        Check.same("due", () -> x.due(0), 8);
        x.tie(0, 0, 's', 1);
        Check.same("no number has its due", () -> x.due(0), 8);
        Check.same("no number does not quarrel", () -> x.isQuarrelling(0), false);
    }

    private static void quarrels() {
        Quipuhall x = new Quipuhall();
        x.main();
        x.hang(0, 'h', 0, 's');
        x.hang(0, 'h', 0, 's');
        x.hang(2, 'h', 0, 'c');
        x.hang(1, 'h', 0, 's');
        x.hang(4, 'h', 0, 'c');
        Check.same("none quarrels", () -> x.quarrel(0), -1);
        x.write(2, 1);
        Check.same("the main cord is the first one", () -> x.quarrel(0), 0);
        x.write(0, 1);
        Check.same("another one", () -> x.quarrel(0), 2);
        x.write(4, 2);
        x.write(1, 2);
        x.write(0, 3);
        Check.same("the first by the order, not by numbers", () -> x.quarrel(0), 4);
        x.cut(4);
        Check.same("a fragment", () -> x.quarrel(4), 4);
        Check.same("behind the cut", () -> x.quarrel(0), 2);
        x.main();
        Check.same("another tree", () -> x.quarrel(6), -1);
    }

    private static void largeSums() {
        Quipuhall x = new Quipuhall();
        x.main();
        for (int i = 1; i <= 36; i++) {
            x.hang(0, 'h', 0, 'c');
            x.write(i, 9999999);
            if (i % 9 == 0 && i < 36) {
                x.group(0);
            }
        }
        Check.same("the largest sum", () -> x.due(0), 36 * 9999999);
        Check.same("the largest sum", () -> x.counted(0), 36 * 9999999);
        Check.same("it quarrels", () -> x.quarrel(0), 0);
    }

    private static void counted() {
        Quipuhall x = new Quipuhall();
        x.main();
        x.write(0, 1);
        Check.same("a sum is no count", () -> x.counted(0), 0);
        x.hang(0, 'h', 0, 'c');
        x.hang(1, 'h', 0, 'c');
        x.hang(0, 'h', 0, 'd');
        x.hang(3, 'h', 0, 'c');
        x.hang(0, 'h', 0, 'g');
        for (int i = 1; i <= 5; i++) {
            x.write(i, (int) Math.pow(10, i));
        }
        Check.same("counts at all steps", () -> x.counted(0), 10110);
        x.tie(2, 0, 'n', 1);
        Check.same("no number counts nothing", () -> x.counted(0), 10010);
        x.cut(1);
        x.write(2, 7);
        Check.same("a fragment counts itself", () -> x.counted(1), 17);
        Check.same("behind the cut", () -> x.counted(0), 10000);
    }

    private static void wrong() {
        Quipuhall x = new Quipuhall();
        x.main();
        x.hang(0, 'h', 0, 'c');
        for (int cord : new int[] {-1, 2, Integer.MIN_VALUE, Integer.MAX_VALUE}) {
            Check.refused("due", IndexOutOfBoundsException.class, () -> x.due(cord));
            Check.refused("isQuarrelling", IndexOutOfBoundsException.class,
                    () -> x.isQuarrelling(cord));
            Check.refused("quarrel", IndexOutOfBoundsException.class, () -> x.quarrel(cord));
            Check.refused("counted", IndexOutOfBoundsException.class, () -> x.counted(cord));
        }
        Check.refused("quarrel", UnsupportedOperationException.class, () -> x.quarrel(1));
        Check.refused("counted", UnsupportedOperationException.class, () -> x.counted(1));
    }
}
