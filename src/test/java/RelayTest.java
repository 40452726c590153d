import java.util.NoSuchElementException;

/** Promises 25 to 27: relay, carry, unlike. */
final class RelayTest {
    public static void main(String[] args) {
        relays();
        relaysWrong();
        copies();
        emptyGroups();
        shifts();
        steps();
        severalRelays();
        strangeCords();
        carryWrong();
        carryLimits();
        unlike();
        unlikeWrong();
        Check.end();
    }

    private static void relays() {
        Quipuhall x = new Quipuhall();
        int[][] edges = {{0, 0, 1}, {9, 6, 9}, {1, 3, 5}, {0, 6, 1}, {9, 0, 9}, {1, 1, 1}};
        for (int i = 0; i < 6; i++) {
            int[] edge = edges[i];
            Check.same("relay", () -> x.relay(edge[0], edge[1], edge[2]), i);
        }
        Check.refused("numbers before the count", IllegalArgumentException.class,
                () -> x.relay(10, 0, 1));
        Check.refused("relay 7", IllegalStateException.class, () -> x.relay(0, 0, 1));
    }

    private static void relaysWrong() {
        Quipuhall x = new Quipuhall();
        int[][] wrong = {{-1, 0, 1}, {10, 0, 1}, {1, -1, 1}, {1, 7, 1}, {1, 0, 0}, {1, 0, 10},
            {Integer.MIN_VALUE, 0, 1}, {0, Integer.MAX_VALUE, 1}, {0, 0, Integer.MIN_VALUE}};
        for (int[] numbers : wrong) {
            Check.refused("relay", IllegalArgumentException.class,
                    () -> x.relay(numbers[0], numbers[1], numbers[2]));
        }
        Check.same("what is refused adds none", () -> x.relay(0, 0, 1), 0);
    }

    private static void copies() {
        Quipuhall x = new Quipuhall();
        x.main();
        x.hang(0, 'h', 9, 's');
        x.hang(0, 'h', 0, 'c');
        x.hang(1, 't', 0, 'd');
        x.group(0);
        x.hang(0, 't', 0, 'g');
        x.hang(3, 'h', 0, 'c');
        x.write(5, 5);
        x.write(3, 4);
        x.write(1, 3);
        x.write(2, 20);
        x.write(4, 23);
        x.write(0, 46);
        x.relay(0, 0, 1);
        Check.same("carry", () -> x.carry(0, 0, 0), 6);
        // The order is 0 1 3 5 2 4, so that the copies are 6 7 8 9 10 11.
        int[] on = {-1, 6, 7, 8, 6, 6};
        int[] value = {46, 3, 4, 5, 20, 23};
        for (int i = 0; i < 6; i++) {
            int index = i;
            Check.same("copies by the order", () -> x.cordAt(6, index), 6 + i);
            Check.same("on", () -> x.on(6 + index), on[i]);
            Check.same("value", () -> x.value(6 + index), value[i]);
        }
        Check.same("the copy of a sum", () -> x.due(6), 46);
        Check.same("the copy of a sum", () -> x.due(7), 4);
        Check.same("the copy of a difference", () -> x.due(8), 5);
        Check.same("the copy of a group sum", () -> x.due(11), 23);
        Check.refused("the copy of a count", NoSuchElementException.class, () -> x.due(10));
        Check.same("the first quarrel of the copy", () -> x.quarrel(6), 7);
        Check.refused("the copies have sorts", UnsupportedOperationException.class,
                () -> x.hang(6, 'h', 0, 'c'));
        x.write(5, 6);
        Check.same("the copy is its own", () -> x.value(9), 5);
        x.write(9, 7);
        Check.same("the first one is its own", () -> x.value(5), 6);
        Check.same("a copy is a main cord", () -> x.carry(6, 0, 0), 12);
        Check.refused("a copy is a main cord", UnsupportedOperationException.class,
                () -> x.cut(6));
        Check.same("sound", () -> x.isSound(), true);
    }

    private static void emptyGroups() {
        Quipuhall x = new Quipuhall();
        x.main();
        for (int i = 1; i <= 3; i++) {
            x.hang(0, 'h', 0, 'g');
            x.group(0);
        }
        x.write(1, 5);
        x.cut(2);
        x.relay(0, 0, 1);
        Check.same("carry", () -> x.carry(0, 0, 0), 4);
        Check.same("size", () -> x.size(4), 3);
        Check.refused("an empty group is copied", NoSuchElementException.class, () -> x.due(6));
        Check.refused("an empty last group is copied", UnsupportedOperationException.class,
                () -> x.group(4));
        x.hang(4, 't', 0, 'c');
        Check.refused("all four groups are copied", IllegalStateException.class,
                () -> x.group(4));
        x.cut(1);
        x.cut(3);
        Check.same("groups without cords", () -> x.carry(0, 0, 0), 8);
        x.hang(8, 'h', 0, 'c');
        Check.refused("all four groups are copied", IllegalStateException.class,
                () -> x.group(8));
    }

    private static void shifts() {
        Quipuhall x = new Quipuhall();
        x.main();
        x.write(0, 1234567);
        x.relay(1, 0, 3);
        x.relay(1, 6, 9);
        x.relay(1, 0, 4);
        x.relay(1, 3, 9);
        x.relay(1, 0, 7);
        Check.same("carry", () -> x.carry(0, 0, 0), 1);
        Check.same("to no knot", () -> x.value(1), 1234560);
        Check.same("carry", () -> x.carry(0, 1, 1), 2);
        Check.same("to no knot at the highest place", () -> x.value(2), 234567);
        Check.same("carry", () -> x.carry(0, 2, 2), 3);
        Check.same("to an eight", () -> x.value(3), 1234561);
        Check.same("carry", () -> x.carry(0, 3, 3), 4);
        Check.same("modulo ten", () -> x.value(4), 1233567);
        Check.same("carry", () -> x.carry(1, 4, 4), 5);
        Check.same("from no knot to a long one", () -> x.value(5), 1234567);
        Check.same("as it is written", () -> x.code(5), x.code(0));
        x.write(4, 1234561);
        Check.same("as it is written", () -> x.code(4), x.code(3));
        Check.same("what was carried stays", () -> x.value(0), 1234567);
    }

    private static void steps() {
        Quipuhall x = new Quipuhall();
        x.main();
        for (int i = 1; i <= 4; i++) {
            x.hang(0, 'h', 0, 'c');
        }
        x.relay(3, 1, 2);
        x.relay(0, 1, 2);
        x.carry(0, 0, 0);
        int[] first = {0, 0, 20, 0, 0};
        for (int i = 0; i < 5; i++) {
            int cord = 5 + i;
            Check.same("each third cord", () -> x.value(cord), first[i]);
        }
        // Carried by another relay, which does not count for the first one.
        x.carry(0, 1, 1);
        Check.same("a step of 0 changes none", () -> x.unlike(0, 10), 0);
        x.carry(0, 0, 0);
        int[] second = {20, 0, 0, 20, 0};
        for (int i = 0; i < 5; i++) {
            int cord = 15 + i;
            Check.same("the count goes on", () -> x.value(cord), second[i]);
        }
        Check.refused("no such relay", IndexOutOfBoundsException.class, () -> x.carry(0, 0, 2));
        x.carry(0, 0, 0);
        Check.same("what is refused counts none", () -> x.value(21), 20);
    }

    private static void severalRelays() {
        Quipuhall x = new Quipuhall();
        x.main();
        x.hang(0, 'h', 0, 'c');
        x.relay(1, 0, 1);
        x.relay(2, 0, 2);
        x.relay(1, 1, 3);
        x.relay(1, 0, 5);
        Check.same("carry", () -> x.carry(0, 0, 2), 2);
        Check.same("by all of them", () -> x.value(2), 31);
        Check.same("by all of them", () -> x.value(3), 33);
        Check.same("carry", () -> x.carry(0, 1, 2), 4);
        Check.same("by two of them", () -> x.value(4), 30);
        Check.same("by two of them", () -> x.value(5), 32);
    }

    private static void strangeCords() {
        Quipuhall x = new Quipuhall();
        x.main();
        x.hang(0, 'h', 0, 'c');
        x.tie(0, 4, 'n', 3);
        x.relay(1, 0, 1);
        x.relay(2, 0, 5);
        x.carry(0, 0, 1);
        Check.same("no number is carried as it is", () -> x.code(2), x.code(0));
        Check.same("it is counted", () -> x.value(3), 6);
    }

    private static void carryWrong() {
        Quipuhall x = new Quipuhall();
        x.relay(1, 0, 1);
        x.relay(1, 0, 1);
        Check.refused("no cord", IndexOutOfBoundsException.class, () -> x.carry(0, 0, 0));
        x.main();
        x.hang(0, 'h', 0, 'c');
        x.hang(0, 'h', 0, 'c');
        x.cut(2);
        for (int wrong : new int[] {-1, 3, Integer.MIN_VALUE, Integer.MAX_VALUE}) {
            Check.refused("cord", IndexOutOfBoundsException.class, () -> x.carry(wrong, 1, 0));
            Check.refused("from", IndexOutOfBoundsException.class, () -> x.carry(0, wrong, 1));
            Check.refused("to", IndexOutOfBoundsException.class, () -> x.carry(0, 0, wrong));
        }
        Check.refused("from", IndexOutOfBoundsException.class, () -> x.carry(0, 2, 2));
        Check.refused("to", IndexOutOfBoundsException.class, () -> x.carry(1, 0, 2));
        Check.refused("lower", IllegalArgumentException.class, () -> x.carry(1, 1, 0));
        Check.refused("no main cord", UnsupportedOperationException.class,
                () -> x.carry(1, 0, 1));
        Check.refused("a fragment", UnsupportedOperationException.class, () -> x.carry(2, 0, 1));
        Check.same("what is refused adds none", () -> x.main(), 3);
    }

    private static void carryLimits() {
        Quipuhall x = new Quipuhall();
        x.relay(1, 0, 1);
        x.main();
        for (int i = 1; i <= 5; i++) {
            Check.same("carry", () -> x.carry(0, 0, 0), i);
        }
        Check.refused("six main cords", IllegalStateException.class, () -> x.carry(0, 0, 0));
        Check.refused("copies are main cords", IllegalStateException.class, () -> x.main());
        x.hang(0, 'h', 0, 'c');
        Check.refused("no main cord is listed first", UnsupportedOperationException.class,
                () -> x.carry(6, 0, 0));

        Quipuhall y = new Quipuhall();
        y.relay(1, 0, 1);
        y.main();
        for (int i = 1; i < 15; i++) {
            y.hang((i - 1) / 9, 'h', 0, 'c');
        }
        for (int i = 1; i <= 3; i++) {
            Check.same("carry", () -> y.carry(0, 0, 0), 15 * i);
        }
        Check.refused("60 cords", IllegalStateException.class, () -> y.carry(0, 0, 0));

        Quipuhall z = new Quipuhall();
        z.relay(1, 0, 1);
        z.main();
        z.main();
        for (int i = 2; i < 31; i++) {
            z.hang(i < 11 ? 1 : (i - 2) / 9 + 1, 'h', 0, 'c');
        }
        long before = z.checksum();
        Check.same("size", () -> z.size(1), 30);
        Check.refused("61 cords", IllegalStateException.class, () -> z.carry(1, 0, 0));
        Check.same("what is refused adds none", () -> z.checksum(), before);
        z.cut(30);
        Check.same("29 and 31", () -> z.carry(1, 0, 0), 31);
        Check.refused("60 cords", IllegalStateException.class, () -> z.main());
    }

    private static void unlike() {
        Quipuhall x = new Quipuhall();
        x.main();
        x.main();
        Check.same("like", () -> x.unlike(0, 1), 0);
        x.hang(0, 'h', 0, 'c');
        x.hang(0, 'h', 0, 'c');
        x.hang(1, 't', 7, 's');
        x.hang(4, 't', 7, 'g');
        Check.same("roles and colours count nothing", () -> x.unlike(0, 1), 0);
        x.write(2, 5);
        Check.same("one", () -> x.unlike(0, 1), 1);
        x.write(5, 5);
        Check.same("by the order", () -> x.unlike(0, 1), 2);
        Check.same("by the order", () -> x.unlike(1, 0), 2);
        x.write(4, 5);
        x.write(5, 0);
        Check.same("like again", () -> x.unlike(0, 1), 0);
        x.tie(4, 0, 'n', 5);
        Check.same("knots, not turns", () -> x.unlike(0, 1), 1);
        Check.same("the same", () -> x.unlike(1, 1), 0);
        x.cut(2);
        x.cut(5);
        Check.same("fragments", () -> x.unlike(2, 5), 1);
        Check.same("a fragment and itself", () -> x.unlike(2, 2), 0);
        Quipuhall y = new Quipuhall();
        y.main();
        for (int i = 0; i < 4; i++) {
            y.hang(i, 'h', 0, 'c');
        }
        y.relay(5, 0, 1);
        y.carry(0, 0, 0);
        Check.same("the highest one", () -> y.unlike(0, 5), 1);
        y.cut(9);
        Check.refused("one cord less", UnsupportedOperationException.class,
                () -> y.unlike(0, 5));
    }

    private static void unlikeWrong() {
        Quipuhall x = new Quipuhall();
        x.main();
        x.main();
        x.hang(0, 'h', 0, 'c');
        for (int wrong : new int[] {-1, 3, Integer.MIN_VALUE, Integer.MAX_VALUE}) {
            Check.refused("first", IndexOutOfBoundsException.class, () -> x.unlike(wrong, 2));
            Check.refused("other", IndexOutOfBoundsException.class, () -> x.unlike(2, wrong));
        }
        Check.refused("unlike numbers", UnsupportedOperationException.class,
                () -> x.unlike(0, 1));
        Check.refused("unlike numbers", UnsupportedOperationException.class,
                () -> x.unlike(1, 0));
        Check.refused("in a tree", UnsupportedOperationException.class, () -> x.unlike(2, 1));
        Check.refused("in a tree", UnsupportedOperationException.class, () -> x.unlike(1, 2));
        Check.refused("in a tree", UnsupportedOperationException.class, () -> x.unlike(2, 2));
    }
}
