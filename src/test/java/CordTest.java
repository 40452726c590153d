import java.util.NoSuchElementException;

/** Promises 1 to 4 and 13 to 15: a new object, main, group, hang, size, cordAt, on. */
final class CordTest {
    public static void main(String[] args) {
        newObject();
        mains();
        mainsAmongSixtyCords();
        groups();
        groupsAfterCut();
        hangWrong();
        hangFullGroup();
        hangHigh();
        hangSixty();
        hangOrderOfExceptions();
        order();
        Check.end();
    }

    private static void newObject() {
        Quipuhall x = new Quipuhall();
        Check.refused("no cord at first", IndexOutOfBoundsException.class, () -> x.on(0));
        Check.same("no reader at first", () -> x.reader(), 0);
        Check.same("no relay at first", () -> x.relay(0, 0, 1), 0);
        Check.same("no storehouse at first", () -> x.house(1), 0);
        Check.refused("no province at first", IndexOutOfBoundsException.class, () -> x.owes(0));
        Check.same("no cord is summed at first", () -> x.checksum(), 7);
        for (int good = 0; good < 4; good++) {
            int asked = good;
            Check.same("rates are 1 at first", () -> x.rate(asked, 1), 1);
        }
        Quipuhall y = new Quipuhall();
        y.main();
        Check.refused("objects share nothing", IndexOutOfBoundsException.class, () -> x.on(0));
    }

    private static void mains() {
        Quipuhall x = new Quipuhall();
        for (int i = 0; i < 6; i++) {
            Check.same("main", () -> x.main(), i);
        }
        Check.refused("main 7", IllegalStateException.class, () -> x.main());
        Check.same("a refused main adds none", () -> x.hang(5, 'h', 0, 'c'), 6);
        Check.same("a main cord is on none", () -> x.on(5), -1);
        Check.refused("a main cord has the role s", NoSuchElementException.class, () -> x.due(0));
        x.hang(0, 'h', 0, 'c');
        Check.same("a main cord has the role s", () -> x.due(0), 0);
    }

    private static void mainsAmongSixtyCords() {
        Quipuhall x = new Quipuhall();
        fill(x, 60);
        Check.refused("main at 60", IllegalStateException.class, () -> x.main());
        Quipuhall y = new Quipuhall();
        fill(y, 59);
        Check.same("main at 59", () -> y.main(), 59);
        // Fragments are not counted among the main cords.
        Quipuhall z = new Quipuhall();
        z.main();
        for (int i = 1; i <= 8; i++) {
            z.hang(0, 'h', 0, 'c');
            z.cut(i);
        }
        for (int i = 0; i < 5; i++) {
            Check.same("main beside fragments", () -> z.main(), 9 + i);
        }
        Check.refused("main beside fragments", IllegalStateException.class, () -> z.main());
    }

    /** A main cord, then cords below 60 in all, nine to a group. */
    private static void fill(Quipuhall x, int cords) {
        x.main();
        int owner = 0;
        int hung = 0;
        for (int i = 1; i < cords; i++) {
            if (hung == 9 || hung == 18 || hung == 27) {
                x.group(owner);
            }
            if (hung == 36) {
                owner++;
                hung = 0;
            }
            x.hang(owner, 'h', 0, 'c');
            hung++;
        }
    }

    private static void groups() {
        Quipuhall x = new Quipuhall();
        Check.refused("group on none", IndexOutOfBoundsException.class, () -> x.group(0));
        x.main();
        Check.refused("group on -1", IndexOutOfBoundsException.class, () -> x.group(-1));
        Check.refused("group on 1", IndexOutOfBoundsException.class, () -> x.group(1));
        Check.refused("group behind an empty one", UnsupportedOperationException.class,
                () -> x.group(0));
        for (int i = 2; i <= 4; i++) {
            x.hang(0, 'h', 0, 'c');
            Check.same("group", () -> x.group(0), i);
            Check.refused("group behind an empty one", UnsupportedOperationException.class,
                    () -> x.group(0));
        }
        x.hang(0, 'h', 0, 'c');
        Check.refused("group 5", IllegalStateException.class, () -> x.group(0));
        Check.same("a refused group leaves the last one", () -> x.hang(0, 'h', 0, 'g'), 5);
        Check.same("a refused group leaves the last one", () -> x.due(5), 0);
        x.hang(1, 't', 0, 'c');
        Check.same("each cord has one group as it is made", () -> x.group(1), 2);
    }

    private static void groupsAfterCut() {
        Quipuhall x = new Quipuhall();
        x.main();
        for (int i = 1; i <= 4; i++) {
            x.hang(0, 'h', 0, 'c');
            if (i < 4) {
                x.group(0);
            }
        }
        x.cut(4);
        Check.refused("empty is listed before four", UnsupportedOperationException.class,
                () -> x.group(0));
        x.cut(2);
        x.hang(0, 't', 0, 'g');
        Check.refused("empty groups stay and count", IllegalStateException.class,
                () -> x.group(0));
        Check.same("the group ahead has one", () -> x.due(5), 0);
        x.cut(3);
        Check.refused("the group ahead is empty", NoSuchElementException.class, () -> x.due(5));
    }

    private static void hangWrong() {
        Quipuhall x = new Quipuhall();
        Check.refused("hang on none", IndexOutOfBoundsException.class,
                () -> x.hang(0, 'h', 0, 'c'));
        x.main();
        Check.refused("hang on -1", IndexOutOfBoundsException.class,
                () -> x.hang(-1, 'h', 0, 'c'));
        Check.refused("hang on 1", IndexOutOfBoundsException.class, () -> x.hang(1, 'h', 0, 'c'));
        for (char sort : new char[] {'H', 'T', 's', 'g', 'i', 'u', ' ', 0, 65535}) {
            Check.refused("no such sort", IllegalArgumentException.class,
                    () -> x.hang(0, sort, 0, 'c'));
        }
        for (char role : new char[] {'h', 't', 'b', 'e', 'f', 'r', 'C', ' ', 0, 65535}) {
            Check.refused("no such role", IllegalArgumentException.class,
                    () -> x.hang(0, 'h', 0, role));
        }
        for (int colours : new int[] {-1, 512, Integer.MIN_VALUE, Integer.MAX_VALUE}) {
            Check.refused("no such colours", IllegalArgumentException.class,
                    () -> x.hang(0, 'h', colours, 'c'));
        }
        Check.same("what is refused hangs nothing", () -> x.size(0), 1);
        Check.same("hang", () -> x.hang(0, 't', 511, 'd'), 1);
        Check.same("hang", () -> x.hang(1, 'h', 0, 'g'), 2);
        Check.same("hang", () -> x.hang(2, 't', 8, 's'), 3);
        Check.same("hang on", () -> x.on(3), 2);
        Check.refused("the other sort", UnsupportedOperationException.class,
                () -> x.hang(0, 'h', 0, 'c'));
        x.group(0);
        Check.same("another group has its own sort", () -> x.hang(0, 'h', 0, 'c'), 4);
        Check.refused("the other sort", UnsupportedOperationException.class,
                () -> x.hang(0, 't', 0, 'c'));
        x.cut(4);
        Check.same("an empty group has no sort", () -> x.hang(0, 't', 0, 'c'), 5);
    }

    private static void hangFullGroup() {
        Quipuhall x = new Quipuhall();
        x.main();
        for (int i = 1; i <= 9; i++) {
            Check.same("nine in a group", () -> x.hang(0, 'h', 0, 'c'), i);
        }
        Check.refused("ten in a group", UnsupportedOperationException.class,
                () -> x.hang(0, 'h', 0, 'c'));
        x.group(0);
        Check.same("another group", () -> x.hang(0, 'h', 0, 'c'), 10);
        for (int i = 11; i <= 18; i++) {
            x.hang(0, 'h', 0, 'c');
        }
        x.cut(3);
        Check.refused("only the last group counts", UnsupportedOperationException.class,
                () -> x.hang(0, 'h', 0, 'c'));
        x.cut(18);
        Check.same("a cut makes room", () -> x.hang(0, 'h', 0, 'c'), 19);
    }

    private static void hangHigh() {
        Quipuhall x = new Quipuhall();
        x.main();
        for (int i = 0; i < 4; i++) {
            x.hang(i, 'h', 0, 'c');
        }
        Check.refused("five steps", UnsupportedOperationException.class,
                () -> x.hang(4, 'h', 0, 'c'));
        Check.same("the highest one counts", () -> x.size(0), 5);
        Check.same("the highest one is told", () -> x.cordAt(0, 4), 4);
        x.cut(1);
        Check.same("steps count from the fragment", () -> x.hang(4, 'h', 0, 'c'), 5);
        Check.refused("five steps from the fragment", UnsupportedOperationException.class,
                () -> x.hang(5, 'h', 0, 'c'));
    }

    private static void hangSixty() {
        Quipuhall x = new Quipuhall();
        fill(x, 59);
        Check.same("hang at 59", () -> x.hang(5, 'h', 0, 'c'), 59);
        Check.refused("hang at 60", IllegalStateException.class, () -> x.hang(5, 'h', 0, 'c'));
        Check.same("60 cords", () -> x.size(0), 60);
        x.cut(59);
        Check.refused("fragments are cords", IllegalStateException.class,
                () -> x.hang(5, 'h', 0, 'c'));
    }

    private static void hangOrderOfExceptions() {
        Quipuhall x = new Quipuhall();
        fill(x, 60);
        Check.refused("first the cord", IndexOutOfBoundsException.class,
                () -> x.hang(60, 'q', 512, 'q'));
        Check.refused("then sort and role", IllegalArgumentException.class,
                () -> x.hang(0, 'q', 0, 'c'));
        Check.refused("then the group", UnsupportedOperationException.class,
                () -> x.hang(0, 't', 0, 'c'));
        Check.refused("then the count", IllegalStateException.class,
                () -> x.hang(59, 't', 0, 'c'));
    }

    private static void order() {
        Quipuhall x = new Quipuhall();
        x.main();
        x.hang(0, 'h', 0, 's');
        x.hang(0, 'h', 0, 's');
        x.hang(1, 'h', 0, 's');
        x.group(0);
        x.hang(0, 't', 0, 's');
        x.hang(2, 't', 0, 's');
        x.hang(1, 'h', 0, 's');
        x.hang(3, 'h', 0, 's');
        x.main();
        int[] due = {0, 1, 3, 7, 6, 2, 5, 4};
        Check.same("size", () -> x.size(0), 8);
        Check.same("size", () -> x.size(8), 1);
        for (int i = 0; i < due.length; i++) {
            int index = i;
            Check.same("cordAt", () -> x.cordAt(0, index), due[i]);
        }
        for (int index : new int[] {-1, 8, Integer.MIN_VALUE, Integer.MAX_VALUE}) {
            Check.refused("cordAt none", NoSuchElementException.class, () -> x.cordAt(0, index));
        }
        int[] on = {-1, 0, 0, 1, 0, 2, 1, 3, -1};
        for (int i = 0; i < on.length; i++) {
            int cord = i;
            Check.same("on", () -> x.on(cord), on[i]);
        }
        x.cut(3);
        Check.same("cordAt of a fragment", () -> x.cordAt(3, 1), 7);
        Check.same("cordAt behind a cut", () -> x.cordAt(0, 2), 6);
        Check.same("size behind a cut", () -> x.size(0), 6);
        Check.same("size of a fragment", () -> x.size(3), 2);
        Check.same("on of a fragment", () -> x.on(3), -1);
        for (int cord : new int[] {-1, 9, Integer.MIN_VALUE}) {
            Check.refused("on", IndexOutOfBoundsException.class, () -> x.on(cord));
            Check.refused("size", IndexOutOfBoundsException.class, () -> x.size(cord));
            Check.refused("cordAt", IndexOutOfBoundsException.class, () -> x.cordAt(cord, -1));
        }
        Check.refused("size in a tree", UnsupportedOperationException.class, () -> x.size(7));
        Check.refused("cordAt in a tree", UnsupportedOperationException.class,
                () -> x.cordAt(7, 99));
    }
}
