import java.lang.reflect.Field;
import java.util.List;

/** Promises 44 to 47: checksum, numberShare, meanValue, isSound. */
final class HallTest {
    public static void main(String[] args) throws ReflectiveOperationException {
        checksum();
        numberShare();
        meanValue();
        sound();
        soundBehindEachChange();
        unsoundSorts();
        unsoundDues();
        unsoundDebts();
        unsoundStores();
        Check.end();
    }

    private static void checksum() {
        Quipuhall x = new Quipuhall();
        Check.same("none", () -> x.checksum(), 7);
        x.main();
        Check.same("one", () -> x.checksum(), 31L * 31 * 7 - 1);
        x.tie(0, 6, 's', 1);
        x.hang(0, 'h', 0, 'c');
        x.tie(1, 4, 'n', 9);
        long due = 7;
        due = 31 * due + x.code(0);
        due = 31 * due - 1;
        due = 31 * due + x.code(1);
        long sum = 31 * due;
        Check.same("two", () -> x.checksum(), sum);
        x.cut(1);
        Check.same("a fragment", () -> x.checksum(), sum - 1);
        for (int i = 0; i < 20; i++) {
            int cord = x.hang(1, 'h', 0, 'c');
            x.cut(cord);
            x.tie(cord, 3, 'n', 9);
        }
        long all = 7;
        for (int cord = 0; cord < 22; cord++) {
            all = 31 * (31 * all + x.code(cord)) + x.on(cord);
        }
        long wrapped = all;
        Check.same("it wraps", () -> x.checksum(), wrapped);
    }

    private static void numberShare() {
        Quipuhall x = new Quipuhall();
        Check.refused("no cords", ArithmeticException.class, () -> x.numberShare());
        x.main();
        Check.same("all", () -> x.numberShare(), 1f);
        x.hang(0, 'h', 0, 'c');
        x.hang(0, 'h', 0, 'c');
        x.tie(2, 0, 'n', 1);
        Check.same("two of three", () -> x.numberShare(), 2f / 3f);
        x.tie(0, 0, 'n', 1);
        x.tie(1, 0, 'n', 1);
        Check.same("none of three", () -> x.numberShare(), 0f);
    }

    private static void meanValue() {
        Quipuhall x = new Quipuhall();
        Check.refused("no cords", ArithmeticException.class, () -> x.meanValue());
        x.main();
        Check.same("mean", () -> x.meanValue(), 0.0);
        x.hang(0, 'h', 0, 'c');
        x.hang(0, 'h', 0, 'c');
        x.write(0, 5);
        x.write(1, 3);
        x.write(2, 2);
        Check.same("mean", () -> x.meanValue(), 10.0 / 3.0);
        x.tie(2, 5, 'n', 1);
        Check.same("mean of numbers", () -> x.meanValue(), 4.0);
        x.cut(1);
        Check.same("fragments count", () -> x.meanValue(), 4.0);
        x.tie(0, 5, 'n', 1);
        x.tie(1, 5, 'n', 1);
        Check.refused("no numbers", ArithmeticException.class, () -> x.meanValue());
    }

    private static Quipuhall busy() {
        Quipuhall x = new Quipuhall();
        x.main();
        x.hang(0, 'h', 0, 'd');
        x.hang(1, 'h', 0, 'c');
        x.hang(1, 'h', 0, 'c');
        x.group(1);
        x.hang(1, 't', 0, 'g');
        for (int i = 0; i < 5; i++) {
            x.write(i, 100 * i + 1);
        }
        x.province(3);
        x.province(2);
        x.labour(0, 5);
        x.pay(0, 1, 3);
        x.remit(0, 7);
        x.move(0, 1, 2);
        x.house(2);
        x.put(0, 0, 500);
        x.put(0, 1, 60);
        x.draw(0, 0, 1);
        x.spoil();
        return x;
    }

    private static void sound() {
        Check.same("a new hall", () -> new Quipuhall().isSound(), true);
        Quipuhall x = busy();
        Check.same("a busy hall", () -> x.isSound(), true);
        x.tie(2, 3, 'n', 1);
        Check.same("a strange cord", () -> x.isSound(), true);
        x.cut(2);
        x.cut(4);
        Check.same("fragments", () -> x.isSound(), true);
        for (char role : new char[] {'c', 's', 'g', 'd'}) {
            Quipuhall y = new Quipuhall();
            y.main();
            for (int i = 1; i <= 4; i++) {
                y.hang((i - 1) / 2, 'h', 0, role);
                y.write(i, i);
            }
            Check.same("first groups " + role, () -> y.isSound(), true);
            y.group(0);
            Check.same("an empty group " + role, () -> y.isSound(), true);
            y.hang(0, 't', 0, role);
            Check.same("a second group " + role, () -> y.isSound(), true);
            y.cut(1);
            y.cut(2);
            Check.same("an emptied group ahead " + role, () -> y.isSound(), true);
        }
    }

    /** Each change comes twice, so that what is told of the first one is not lost. */
    private static void soundBehindEachChange() {
        Quipuhall x = new Quipuhall();
        x.main();
        x.write(0, 17);
        for (int i = 0; i < 2; i++) {
            x.house(6);
            x.province(0);
        }
        for (int i = 0; i < 8; i++) {
            int number = i / 2 % 2;
            int good = i % 4;
            soundBehind("labour", x, () -> x.labour(number, 9 + number));
            soundBehind("pay", x, () -> x.pay(number, good, 2));
            soundBehind("remit", x, () -> x.remit(number, 10));
            soundBehind("move", x, () -> x.move(number, 1 - number, 3));
            soundBehind("put", x, () -> x.put(number, good, 550));
            soundBehind("draw", x, () -> x.draw(number, good, 0));
            soundBehind("spoil", x, () -> x.spoil());
            soundBehind("rate", x, () -> x.rate(good, 2));
        }
    }

    private static void soundBehind(String what, Quipuhall x, Check.Call call) {
        Check.holds(what, !(Check.answerOf(call) instanceof Class));
        Check.same("sound behind " + what, () -> x.isSound(), true);
    }

    private static Object part(Object of, String field) throws ReflectiveOperationException {
        Field found = of.getClass().getDeclaredField(field);
        found.setAccessible(true);
        return found.get(of);
    }

    private static void set(Object of, String field, Object value)
            throws ReflectiveOperationException {
        Field found = of.getClass().getDeclaredField(field);
        found.setAccessible(true);
        found.set(of, value);
    }

    private static Object at(Object of, String field, int index)
            throws ReflectiveOperationException {
        return ((List<?>) part(of, field)).get(index);
    }

    /** No call leads to a hall that is not sound, so these break what is inside. */
    private static void unsoundSorts() throws ReflectiveOperationException {
        Quipuhall x = busy();
        set(at(x, "cords", 3), "sort", 't');
        Check.same("sorts in a group", () -> x.isSound(), false);
        Quipuhall z = new Quipuhall();
        z.main();
        z.hang(0, 'h', 0, 'c');
        z.hang(0, 'h', 0, 'c');
        set(at(z, "cords", 2), "sort", 't');
        Check.same("sorts in a group of a main cord", () -> z.isSound(), false);
        Quipuhall y = busy();
        set(at(y, "cords", 4), "sort", 'h');
        Check.same("a sort alone in a group", () -> y.isSound(), true);
    }

    private static void unsoundDues() throws ReflectiveOperationException {
        Quipuhall x = busy();
        set(at(x, "cords", 3), "on", at(x, "cords", 0));
        Check.same("a cord on another one than its group", () -> x.isSound(), false);
        Quipuhall y = busy();
        set(at(y, "cords", 2), "on", null);
        Check.same("a cord in two trees", () -> y.isSound(), false);
        Quipuhall z = new Quipuhall();
        z.main();
        z.hang(0, 'h', 0, 'c');
        set(at(z, "cords", 1), "on", at(z, "cords", 1));
        Check.same("a cord on itself", () -> z.isSound(), false);
    }

    private static void unsoundDebts() throws ReflectiveOperationException {
        for (String field : new String[] {"owed", "told", "paid", "remitted", "moved"}) {
            Quipuhall x = busy();
            Object province = at(x, "provinces", 1);
            set(province, field, (Long) part(province, field) + 1L);
            Check.same(field, () -> x.isSound(), false);
        }
        Quipuhall y = busy();
        Object province = at(y, "provinces", 0);
        set(province, "moved", (Long) part(province, "moved") + 1L);
        set(province, "owed", (Long) part(province, "owed") + 1L);
        Check.same("moved from nowhere", () -> y.isSound(), false);
    }

    private static void unsoundStores() throws ReflectiveOperationException {
        for (String field : new String[] {"stored", "drawn", "spoiled"}) {
            for (int good = 0; good < 4; good++) {
                Quipuhall x = busy();
                ((long[]) part(at(x, "houses", 0), field))[good]++;
                Check.same(field, () -> x.isSound(), false);
            }
        }
        Quipuhall y = busy();
        ((int[]) part(at(y, "houses", 0), "pieces"))[1]--;
        Check.same("pieces", () -> y.isSound(), false);
        Quipuhall z = busy();
        ((int[]) part(at(z, "houses", 0), "goods"))[1] = 3;
        Check.same("goods", () -> z.isSound(), false);
    }
}
