/** Promises 28 to 34: province, rate, labour, pay, remit, move, owes. */
final class ProvinceTest {
    public static void main(String[] args) {
        provinces();
        rates();
        labour();
        pay();
        remit();
        move();
        Check.end();
    }

    /** A main cord that tells the households, and so many provinces. */
    private static Quipuhall with(int households, int provinces) {
        Quipuhall x = new Quipuhall();
        x.main();
        x.write(0, households);
        for (int i = 0; i < provinces; i++) {
            x.province(0);
        }
        return x;
    }

    private static void provinces() {
        Quipuhall x = with(5, 0);
        Check.refused("cord", IndexOutOfBoundsException.class, () -> x.province(-1));
        Check.refused("cord", IndexOutOfBoundsException.class, () -> x.province(1));
        x.tie(0, 0, 'n', 1);
        Check.refused("no number", UnsupportedOperationException.class, () -> x.province(0));
        x.write(0, 5);
        for (int i = 0; i < 4; i++) {
            Check.same("province", () -> x.province(0), i);
        }
        Check.refused("province 5", IllegalStateException.class, () -> x.province(0));
        x.tie(0, 0, 'n', 1);
        Check.refused("no number is listed first", UnsupportedOperationException.class,
                () -> x.province(0));
        Check.refused("no fifth", IndexOutOfBoundsException.class, () -> x.owes(4));
        for (int i = 0; i < 4; i++) {
            int province = i;
            Check.same("it owes nothing at first", () -> x.owes(province), 0);
        }
        Check.refused("owes", IndexOutOfBoundsException.class, () -> x.owes(-1));
        Check.refused("owes", IndexOutOfBoundsException.class,
                () -> x.owes(Integer.MAX_VALUE));
    }

    private static void rates() {
        Quipuhall x = new Quipuhall();
        Check.same("rate", () -> x.rate(0, 20), 1);
        Check.same("rate", () -> x.rate(0, 1), 20);
        Check.same("rate", () -> x.rate(3, 7), 1);
        Check.same("rate", () -> x.rate(3, 8), 7);
        int[][] wrong = {{-1, 1}, {4, 1}, {0, 0}, {0, 21}, {Integer.MIN_VALUE, 1},
            {Integer.MAX_VALUE, 1}, {3, Integer.MIN_VALUE}, {3, Integer.MAX_VALUE}};
        for (int[] numbers : wrong) {
            Check.refused("rate", IllegalArgumentException.class,
                    () -> x.rate(numbers[0], numbers[1]));
        }
        Check.same("what is refused sets none", () -> x.rate(3, 1), 8);
        Check.same("what is refused sets none", () -> x.rate(0, 1), 1);
    }

    private static void labour() {
        Quipuhall x = with(7, 2);
        Check.same("labour", () -> x.labour(0, 1), 7);
        Check.same("labour adds", () -> x.labour(0, 99), 700);
        x.write(0, 1000);
        Check.same("households as they were told", () -> x.labour(0, 1), 707);
        Check.same("another one", () -> x.owes(1), 0);
        for (int wrong : new int[] {-1, 2, Integer.MIN_VALUE, Integer.MAX_VALUE}) {
            Check.refused("labour", IndexOutOfBoundsException.class, () -> x.labour(wrong, 0));
        }
        for (int wrong : new int[] {-1, 0, 100, Integer.MIN_VALUE, Integer.MAX_VALUE}) {
            Check.refused("labour", IllegalArgumentException.class, () -> x.labour(0, wrong));
        }
        Check.same("owes", () -> x.owes(0), 707);
        Quipuhall y = with(9999999, 1);
        for (int i = 1; i <= 500; i++) {
            y.labour(0, 99);
        }
        Check.same("more than an int", () -> y.owes(0), 500L * 99 * 9999999);
        Check.same("remit", () -> y.remit(0, 99), 500L * 99 * 9999999 * 99 / 100);
        Quipuhall z = with(0, 1);
        Check.same("no households", () -> z.labour(0, 99), 0);
    }

    private static void pay() {
        Quipuhall x = with(100, 2);
        x.labour(0, 5);
        x.rate(1, 20);
        x.rate(2, 3);
        Check.same("pay", () -> x.pay(0, 0, 1), 499);
        Check.same("pay by the rate", () -> x.pay(0, 2, 33), 400);
        Check.refused("it owes less", UnsupportedOperationException.class,
                () -> x.pay(0, 1, 21));
        Check.same("just what it owes", () -> x.pay(0, 1, 20), 0);
        Check.refused("it owes nothing", UnsupportedOperationException.class,
                () -> x.pay(0, 3, 1));
        for (int wrong : new int[] {-1, 2, Integer.MIN_VALUE, Integer.MAX_VALUE}) {
            Check.refused("pay", IndexOutOfBoundsException.class, () -> x.pay(wrong, 4, 0));
        }
        int[][] wrong = {{-1, 1}, {4, 1}, {0, 0}, {0, 10000}, {0, -1}, {Integer.MIN_VALUE, 1},
            {Integer.MAX_VALUE, 1}, {0, Integer.MIN_VALUE}, {0, Integer.MAX_VALUE}};
        for (int[] numbers : wrong) {
            Check.refused("pay", IllegalArgumentException.class,
                    () -> x.pay(0, numbers[0], numbers[1]));
        }
        Quipuhall y = with(9999999, 1);
        y.labour(0, 1);
        y.rate(0, 20);
        Check.same("the most pieces", () -> y.pay(0, 0, 9999), 9999999 - 199980);
        Check.same("sound", () -> y.isSound(), true);
    }

    private static void remit() {
        Quipuhall x = with(333, 1);
        Check.same("nothing to remit", () -> x.remit(0, 100), 0);
        x.labour(0, 1);
        Check.same("none", () -> x.remit(0, 0), 0);
        Check.same("cut", () -> x.remit(0, 1), 3);
        Check.same("owes", () -> x.owes(0), 330);
        Check.same("cut", () -> x.remit(0, 50), 165);
        Check.same("cut", () -> x.remit(0, 99), 163);
        Check.same("owes", () -> x.owes(0), 2);
        Check.same("cut to none", () -> x.remit(0, 49), 0);
        Check.same("all", () -> x.remit(0, 100), 2);
        Check.same("owes", () -> x.owes(0), 0);
        for (int wrong : new int[] {-1, 1, Integer.MIN_VALUE, Integer.MAX_VALUE}) {
            Check.refused("remit", IndexOutOfBoundsException.class, () -> x.remit(wrong, -1));
        }
        for (int wrong : new int[] {-1, 101, Integer.MIN_VALUE, Integer.MAX_VALUE}) {
            Check.refused("remit", IllegalArgumentException.class, () -> x.remit(0, wrong));
        }
    }

    private static void move() {
        Quipuhall x = with(1000000, 3);
        x.labour(0, 1);
        Check.same("move", () -> x.move(0, 1, 1), 1);
        Check.same("move", () -> x.move(0, 2, 999999), 999999);
        Check.same("owes", () -> x.owes(0), 0);
        Check.refused("it owes less", UnsupportedOperationException.class,
                () -> x.move(0, 1, 1));
        Check.refused("it owes less", UnsupportedOperationException.class,
                () -> x.move(1, 0, 2));
        Check.same("move", () -> x.move(1, 2, 1), 1000000);
        Check.same("sound", () -> x.isSound(), true);
        for (int wrong : new int[] {-1, 3, Integer.MIN_VALUE, Integer.MAX_VALUE}) {
            Check.refused("move", IndexOutOfBoundsException.class, () -> x.move(wrong, 0, 0));
            Check.refused("move", IndexOutOfBoundsException.class, () -> x.move(0, wrong, 0));
            Check.refused("move", IndexOutOfBoundsException.class,
                    () -> x.move(wrong, wrong, 0));
        }
        Check.refused("the same", IllegalArgumentException.class, () -> x.move(2, 2, 1));
        for (int wrong : new int[] {-1, 0, 1000000, Integer.MIN_VALUE, Integer.MAX_VALUE}) {
            Check.refused("move", IllegalArgumentException.class, () -> x.move(2, 0, wrong));
        }
        Check.same("owes", () -> x.owes(2), 1000000);
    }
}
