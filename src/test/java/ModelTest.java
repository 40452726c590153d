import java.lang.reflect.InvocationTargetException;
import java.lang.reflect.Method;
import java.util.ArrayList;
import java.util.HashMap;
import java.util.List;
import java.util.Map;
import java.util.Random;

/** Long runs of calls, by seeds that stay the same, answered as the plain hall answers them. */
final class ModelTest {
    private static final int RUNS = 300;
    private static final int CALLS = 512;

    private final Random random;
    private final Quipuhall hall = new Quipuhall();
    private final PlainHall plain = new PlainHall();
    private final List<String> told = new ArrayList<>();
    private final int wildness;

    private ModelTest(long seed) {
        random = new Random(seed);
        wildness = random.nextInt(3) * 10;
    }

    private static final Map<String, Method> HALL = new HashMap<>();
    private static final Map<String, Method> PLAIN = new HashMap<>();
    private static final List<String> NAMES = new ArrayList<>();
    private static final Map<String, Integer> ANSWERED = new HashMap<>();

    public static void main(String[] args) throws ReflectiveOperationException {
        for (Method method : Quipuhall.class.getMethods()) {
            if (method.getDeclaringClass() == Quipuhall.class) {
                HALL.put(method.getName(), method);
                PLAIN.put(method.getName(), PlainHall.class.getDeclaredMethod(
                        method.getName(), method.getParameterTypes()));
                NAMES.add(method.getName());
            }
        }
        NAMES.sort(null);
        for (int run = 0; run < RUNS; run++) {
            if (!new ModelTest(run).runs()) {
                System.out.println("run " + run);
                System.exit(1);
            }
        }
        boolean isWhole = true;
        for (String name : NAMES) {
            if (ANSWERED.getOrDefault(name, 0) < RUNS / 3) {
                System.out.println(name + " answered " + ANSWERED.get(name) + " times alone");
                isWhole = false;
            }
        }
        if (!isWhole) {
            System.exit(1);
        }
    }

    private boolean runs() throws ReflectiveOperationException {
        boolean isRight = true;
        for (int call = 0; isRight && call < CALLS; call++) {
            isRight = step(call);
            isRight &= same("checksum");
            isRight &= same("isSound");
        }
        return isRight;
    }

    private boolean step(int call) throws ReflectiveOperationException {
        if (call < 12) {
            String[] first = {"main", "main", "reader", "reader", "province", "province",
                "house", "house", "relay", "relay", "hang", "hang"};
            return any(first[call]);
        }
        int kind = random.nextInt(30);
        if (kind < 4) {
            return same("hang", cord(), random.nextInt(4) == 0 ? 't' : 'h', colours(), role());
        }
        if (kind < 9 && !plain.cords.isEmpty()) {
            return writeNearDue(cord());
        }
        if (kind < 11 && !plain.cords.isEmpty()) {
            int root = root();
            return same("likely", root) && same("likelyAt", root, random.nextInt(3), what());
        }
        if (kind < 12) {
            return same("cut", cord());
        }
        if (kind < 13) {
            return joinSome();
        }
        if (kind < 14) {
            return nameSome();
        }
        if (kind < 15) {
            int province = upTo(3);
            return same("labour", province, upTo(100))
                    && same("pay", province, upTo(4), 1 + upTo(9))
                    && same("move", province, upTo(3), 1 + upTo(9));
        }
        return any(NAMES.get(random.nextInt(NAMES.size())));
    }

    /** Writes what is due, or that with another digit, so that sums often nearly agree. */
    private boolean writeNearDue(int cord) throws ReflectiveOperationException {
        int number = random.nextInt(3) == 0 ? random.nextInt(10000000) : random.nextInt(100);
        try {
            number = plain.due(cord);
        } catch (RuntimeException notDue) {
            number += 0;
        }
        if (random.nextInt(3) == 0) {
            number += (random.nextInt(19) - 9) * (int) Math.pow(10, random.nextInt(7));
        }
        return same("write", cord, number);
    }

    /** Ties a few sorts of knots, so that names come again. */
    private boolean nameSome() throws ReflectiveOperationException {
        int cord = cord();
        int reader = upTo(4);
        return same("tie", cord, random.nextInt(3), 'n', 1 + random.nextInt(3))
                && same("name", cord)
                && same("learn", reader, cord, upTo(100))
                && same("word", upTo(4), cord)
                && (random.nextInt(3) == 0 || same("write", cord, random.nextInt(100)));
    }

    /** Joins the fragments where they fit. */
    private boolean joinSome() throws ReflectiveOperationException {
        for (int cord = 0; cord < plain.cords.size(); cord++) {
            int other = random.nextInt(plain.cords.size());
            boolean isFragment = plain.cords.get(cord).on < 0 && !plain.cords.get(cord).main;
            if (isFragment && plain.fits(cord, other)) {
                return same("matches", cord) && same("join", cord, other);
            }
        }
        return same("matches", cord());
    }

    private boolean any(String name) throws ReflectiveOperationException {
        switch (name) {
            case "hang":
                return same(name, cord(), sort(), colours(), role());
            case "tie":
                return same(name, cord(), upTo(7), "slennn".charAt(random.nextInt(6)), upTo(10));
            case "untie":
                return same(name, cord(), upTo(7));
            case "cordAt":
                return same(name, root(), upTo(20));
            case "likelyAt":
                return same(name, cord(), upTo(3), what());
            case "learn":
                return same(name, upTo(6), cord(), upTo(100));
            case "teach":
                return same(name, upTo(4), upTo(4));
            case "word":
                return same(name, upTo(4), cord());
            case "relay":
                return same(name, upTo(10), upTo(7), upTo(10));
            case "carry":
                return same(name, random.nextInt(4) == 0 ? cord() : 0, upTo(3), upTo(4));
            case "unlike":
                return same(name, root(), root());
            case "rate":
                return same(name, upTo(4), upTo(21));
            case "labour":
                return same(name, upTo(4), upTo(100));
            case "pay":
                return same(name, upTo(4), upTo(4), upTo(400));
            case "remit":
                return same(name, upTo(4), upTo(101));
            case "move":
                return same(name, upTo(4), upTo(4), upTo(1000));
            case "owes":
                return same(name, upTo(4));
            case "house":
                return same(name, upTo(7));
            case "put":
                return same(name, upTo(3), upTo(4), upTo(1000));
            case "draw":
                return same(name, upTo(3), upTo(4), cord());
            case "pieces":
                return same(name, upTo(3), upTo(6), upTo(4));
            case "write":
                return same(name, cord(), upTo(10000000));
            case "fits":
            case "join":
                return same(name, cord(), cord());
            case "main":
            case "reader":
            case "spoil":
            case "checksum":
            case "numberShare":
            case "meanValue":
            case "isSound":
                return same(name);
            default:
                return same(name, cord());
        }
    }

    private int upTo(int bound) {
        if (random.nextInt(100) < wildness) {
            int[] wild = {-1, bound, Integer.MIN_VALUE, Integer.MAX_VALUE, random.nextInt()};
            return wild[random.nextInt(wild.length)];
        }
        return random.nextInt(bound);
    }

    private int cord() {
        return upTo(Math.max(1, plain.cords.size()));
    }

    /** The main cord or fragment of some cord, if there is that. */
    private int root() {
        int root = cord();
        while (root >= 0 && root < plain.cords.size() && plain.cords.get(root).on >= 0) {
            root = plain.cords.get(root).on;
        }
        return root;
    }

    private int colours() {
        return random.nextInt(2) == 0 ? 0 : upTo(512);
    }

    private char sort() {
        return random.nextInt(100) < wildness ? (char) random.nextInt(256)
                : "ht".charAt(random.nextInt(2));
    }

    private char role() {
        return random.nextInt(100) < wildness ? (char) random.nextInt(256)
                : "csssgd".charAt(random.nextInt(6));
    }

    private char what() {
        return random.nextInt(100) < wildness ? (char) random.nextInt(256)
                : "cpd".charAt(random.nextInt(3));
    }

    private boolean same(String name, Object... values) throws ReflectiveOperationException {
        Object answer = answer(HALL.get(name), hall, values);
        Object due = answer(PLAIN.get(name), plain, values);
        told.add(name + List.of(values) + " = " + due);
        if (!(due instanceof Class)) {
            ANSWERED.merge(name, 1, Integer::sum);
        }
        if (!answer.equals(due)) {
            told.forEach(System.out::println);
            System.out.println("but the class answered " + answer);
            return false;
        }
        return true;
    }

    /** The answer, or the class of the exception. */
    private static Object answer(Method method, Object of, Object[] values)
            throws ReflectiveOperationException {
        try {
            return method.invoke(of, values);
        } catch (InvocationTargetException thrown) {
            boolean isRight = of instanceof PlainHall || Check.isOfItsOwn(thrown.getCause());
            return isRight ? thrown.getCause().getClass() : thrown.getCause();
        }
    }
}
