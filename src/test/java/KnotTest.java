/** Promises 5 to 9, 19 and 20: tie, untie, write, isNumber, value, code, name. */
final class KnotTest {
    public static void main(String[] args) {
        tieEdges();
        tieWrong();
        untie();
        write();
        isNumber();
        code();
        name();
        Check.end();
    }

    private static Quipuhall withMain() {
        Quipuhall x = new Quipuhall();
        x.main();
        return x;
    }

    private static void tieEdges() {
        Quipuhall x = withMain();
        Check.same("tie over none", () -> x.tie(0, 6, 's', 9), 0);
        Check.same("value", () -> x.value(0), 9000000);
        Check.same("tie over some", () -> x.tie(0, 6, 's', 1), 9);
        Check.same("value", () -> x.value(0), 1000000);
        Check.same("tie long", () -> x.tie(0, 0, 'l', 2), 0);
        Check.same("value", () -> x.value(0), 1000002);
        Check.same("tie long", () -> x.tie(0, 0, 'l', 9), 2);
        Check.same("tie eight", () -> x.tie(0, 0, 'e', 1), 9);
        Check.same("value", () -> x.value(0), 1000001);
        Check.same("tie strange", () -> x.tie(0, 0, 'n', 9), 1);
        Check.same("tie strange", () -> x.tie(0, 0, 'n', 1), 9);
        Check.same("tie simple", () -> x.tie(0, 0, 's', 4), 1);
    }

    private static void tieWrong() {
        Quipuhall x = withMain();
        long before = x.checksum();
        Check.refused("tie none", IndexOutOfBoundsException.class, () -> x.tie(1, -1, 'q', 0));
        Check.refused("tie none", IndexOutOfBoundsException.class, () -> x.tie(-1, 0, 'e', 1));
        for (int place : new int[] {-1, 7, Integer.MIN_VALUE, Integer.MAX_VALUE}) {
            Check.refused("tie place", IllegalArgumentException.class,
                    () -> x.tie(0, place, 's', 1));
        }
        for (char sort : new char[] {'h', 'c', 'S', 'L', 'm', 'f', ' ', 0, 65535}) {
            Check.refused("tie sort", IllegalArgumentException.class, () -> x.tie(0, 0, sort, 1));
        }
        wrongTurns(x, 's', 0, 10);
        wrongTurns(x, 'l', 1, 10);
        wrongTurns(x, 'e', 0, 2);
        wrongTurns(x, 'n', 0, 10);
        Check.same("what is refused ties nothing", () -> x.checksum(), before);
    }

    private static void wrongTurns(Quipuhall x, char sort, int few, int many) {
        Check.refused("few turns", IllegalArgumentException.class, () -> x.tie(0, 0, sort, few));
        Check.refused("many turns", IllegalArgumentException.class,
                () -> x.tie(0, 0, sort, many));
        Check.refused("turns", IllegalArgumentException.class, () -> x.tie(0, 3, sort, -1));
        Check.refused("turns", IllegalArgumentException.class,
                () -> x.tie(0, 3, sort, Integer.MAX_VALUE));
    }

    private static void untie() {
        Quipuhall x = withMain();
        x.tie(0, 6, 'n', 4);
        Check.same("untie", () -> x.untie(0, 6), 4);
        Check.same("untie none", () -> x.untie(0, 6), 0);
        Check.same("untied", () -> x.value(0), 0);
        Check.same("an untied place has no sort", () -> x.code(0), 0);
        x.write(0, 57);
        Check.same("untie", () -> x.untie(0, 0), 7);
        Check.same("untied", () -> x.value(0), 50);
        Check.refused("untie none", IndexOutOfBoundsException.class, () -> x.untie(1, 7));
        Check.refused("untie none", IndexOutOfBoundsException.class, () -> x.untie(-1, 0));
        for (int place : new int[] {-1, 7, Integer.MIN_VALUE, Integer.MAX_VALUE}) {
            Check.refused("untie place", IllegalArgumentException.class,
                    () -> x.untie(0, place));
        }
    }

    private static void write() {
        Quipuhall x = withMain();
        int[][] numbers = {{0, 0}, {1, 1}, {10, 1}, {9, 1}, {9999999, 7}, {1000000, 1},
            {9030201, 4}, {2, 1}, {1234567, 7}, {100, 1}};
        for (int[] number : numbers) {
            x.tie(0, 3, 'n', 5);
            Check.same("write", () -> x.write(0, number[0]), number[1]);
            Check.same("value of " + number[0], () -> x.value(0), number[0]);
        }
        x.write(0, 21);
        int written = x.code(0);
        x.tie(0, 1, 's', 2);
        x.tie(0, 0, 'e', 1);
        Check.same("a one at the units is an eight", () -> x.code(0), written);
        x.write(0, 32);
        int other = x.code(0);
        x.tie(0, 1, 's', 3);
        x.tie(0, 0, 'l', 2);
        Check.same("a two at the units is a long one", () -> x.code(0), other);
        for (int number : new int[] {-1, 10000000, Integer.MIN_VALUE, Integer.MAX_VALUE}) {
            Check.refused("write", IllegalArgumentException.class, () -> x.write(0, number));
        }
        Check.refused("write none", IndexOutOfBoundsException.class, () -> x.write(1, -1));
        Check.refused("write none", IndexOutOfBoundsException.class, () -> x.write(-1, 0));
        Check.same("what is refused writes nothing", () -> x.value(0), 32);
    }

    private static void isNumber() {
        Quipuhall x = withMain();
        Check.same("no knots are a number", () -> x.isNumber(0), true);
        for (int place = 0; place < 7; place++) {
            for (char sort : new char[] {'s', 'l', 'e', 'n'}) {
                x.write(0, 0);
                x.tie(0, place, sort, sort == 'l' ? 2 : 1);
                boolean due = place == 0 ? sort == 'l' || sort == 'e' : sort == 's';
                Check.same("isNumber " + place + sort, () -> x.isNumber(0), due);
                if (due) {
                    int value = (sort == 'l' ? 2 : 1) * (int) Math.pow(10, place);
                    Check.same("value " + place + sort, () -> x.value(0), value);
                } else {
                    Check.refused("value " + place + sort, UnsupportedOperationException.class,
                            () -> x.value(0));
                }
            }
        }
        for (int cord : new int[] {-1, 1, Integer.MIN_VALUE, Integer.MAX_VALUE}) {
            Check.refused("isNumber", IndexOutOfBoundsException.class, () -> x.isNumber(cord));
            Check.refused("value", IndexOutOfBoundsException.class, () -> x.value(cord));
        }
    }

    private static void code() {
        Quipuhall x = withMain();
        Check.same("code of none", () -> x.code(0), 0);
        x.tie(0, 0, 'l', 9);
        Check.same("code of a long one", () -> x.code(0), 0x02000009);
        x.tie(0, 0, 'e', 1);
        Check.same("code of an eight", () -> x.code(0), 0x03000001);
        x.tie(0, 0, 's', 5);
        Check.same("code of a simple one", () -> x.code(0), 0x01000005);
        x.tie(0, 0, 'n', 5);
        Check.same("code of a strange one", () -> x.code(0), 0x04000005);
        x.tie(0, 1, 's', 7);
        Check.same("two places", () -> x.code(0), (0x02000007 << 4 | 5) ^ 0x04000000);
        x.write(0, 0);
        x.tie(0, 6, 'n', 3);
        Check.same("the highest place, shifted out", () -> x.code(0), 0x03000000);
        x.tie(0, 5, 'e', 1);
        Check.same("a sort at the lowest bits", () -> x.code(0), 0x03100000);
        x.tie(0, 4, 'n', 2);
        int due = 0;
        int[] turns = {0, 0, 0, 0, 2, 1, 3};
        int[] sorts = {0, 0, 0, 0, 4, 3, 4};
        for (int place = 6; place >= 0; place--) {
            due = (due << 4 | turns[place]) ^ sorts[place] << 24 + place;
        }
        int code = due;
        Check.same("three places", () -> x.code(0), code);
        x.hang(0, 'h', 0, 'c');
        Check.same("another cord", () -> x.code(1), 0);
        for (int cord : new int[] {-1, 2, Integer.MIN_VALUE, Integer.MAX_VALUE}) {
            Check.refused("code", IndexOutOfBoundsException.class, () -> x.code(cord));
            Check.refused("name", IndexOutOfBoundsException.class, () -> x.name(cord));
        }
    }

    private static void name() {
        Quipuhall x = withMain();
        Check.refused("name of a number", UnsupportedOperationException.class, () -> x.name(0));
        x.tie(0, 0, 'n', 3);
        Check.same("name", () -> x.name(0), 1027);
        x.tie(0, 3, 's', 9);
        int code = x.code(0);
        Check.same("name", () -> x.name(0), (short) (code ^ code >>> 16));
        Check.holds("a name below 0", x.name(0) < 0);
        x.tie(0, 1, 'n', 9);
        x.tie(0, 2, 'n', 9);
        x.tie(0, 4, 'n', 8);
        x.tie(0, 6, 'n', 9);
        int other = x.code(0);
        Check.same("name", () -> x.name(0), (short) (other ^ other >>> 16));
        // With bits above the sixteenth set, a cut name differs from one that is not.
        x.write(0, 0);
        x.tie(0, 6, 's', 1);
        x.tie(0, 5, 's', 8);
        x.tie(0, 1, 'n', 8);
        int third = x.code(0);
        Check.same("name", () -> x.name(0), (short) (third ^ third >>> 16));
    }
}
