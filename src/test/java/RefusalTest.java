import java.util.NoSuchElementException;

/**
 * Each 'Throws' row of the document: a call that meets it alone, calls that meet it together with
 * a later row, and what stands afterwards, which Probe looks at.
 */
final class RefusalTest {
    private static final Class<IndexOutOfBoundsException> INDEX = IndexOutOfBoundsException.class;
    private static final Class<IllegalArgumentException> ARGUMENT = IllegalArgumentException.class;
    private static final Class<UnsupportedOperationException> UNSUPPORTED =
            UnsupportedOperationException.class;
    private static final Class<IllegalStateException> STATE = IllegalStateException.class;
    private static final Class<NoSuchElementException> ELEMENT = NoSuchElementException.class;
    private static final Class<ArithmeticException> ARITHMETIC = ArithmeticException.class;

    // What realm() makes: cords 0 to 11, readers 0 and 1, relays 0 and 1, and so on.
    private static final int CORDS = 12;
    private static final int MAIN = 0;
    private static final int COUNT = 1;
    private static final int STRANGE = 5;
    private static final int HIGHEST = 7;
    private static final int SECOND_MAIN = 8;
    private static final int FRAGMENT = 9;
    private static final int ON_FRAGMENT = 10;

    private interface CallOn {
        Object of(Quipuhall hall, int number);
    }

    private interface More {
        void to(Quipuhall hall);
    }

    public static void main(String[] args) {
        main();
        group();
        hang();
        hangBySort();
        hangAtSixty();
        tie();
        untieAndWrite();
        cordsAsked();
        due();
        treesAsked();
        cordAt();
        likelyAt();
        readers();
        learn();
        teachAndWord();
        relay();
        carry();
        unlike();
        province();
        rate();
        labourAndRemit();
        pay();
        move();
        house();
        put();
        draw();
        pieces();
        cut();
        fragmentsAsked();
        join();
        shares();
        Check.end();
    }

    private static void row(String what, Class<? extends RuntimeException> due,
            Probe.Making making, Probe.Call call) {
        Probe.refused(what, due, making, call);
    }

    /** No number below 0, and none from the count on. */
    private static void noneOf(String what, int count, Probe.Making making, CallOn call) {
        for (int wrong : new int[] {-1, count, Integer.MIN_VALUE, Integer.MAX_VALUE}) {
            row(what + " " + wrong, INDEX, making, x -> call.of(x, wrong));
        }
    }

    private static void outside(String what, int least, int most, Probe.Making making,
            CallOn call) {
        for (int wrong : new int[] {least - 1, most + 1, Integer.MIN_VALUE, Integer.MAX_VALUE}) {
            row(what + " " + wrong, ARGUMENT, making, x -> call.of(x, wrong));
        }
    }

    private static Probe.Making with(Probe.Making making, More more) {
        return () -> {
            Quipuhall x = making.make();
            more.to(x);
            return x;
        };
    }

    /** A hall that has something of all. */
    private static Quipuhall realm() {
        Quipuhall x = new Quipuhall();
        x.main();
        x.hang(0, 'h', 8, 'c');
        x.hang(0, 'h', 0, 's');
        x.hang(2, 't', 0, 'c');
        x.group(0);
        x.hang(0, 't', 5, 'g');
        x.hang(4, 'h', 0, 'd');
        x.hang(5, 'h', 0, 'c');
        x.hang(6, 'h', 0, 'c');
        x.main();
        x.hang(0, 't', 0, 's');
        x.hang(9, 'h', 0, 'c');
        x.cut(9);
        int[] numbers = {85, 12, 30, 30, 42, 0, 1, 2, 7, 8, 8};
        for (int cord = 0; cord < numbers.length; cord++) {
            x.write(cord, numbers[cord]);
        }
        x.tie(5, 2, 'n', 3);
        x.reader();
        x.reader();
        x.learn(0, 5, 70);
        x.relay(3, 1, 2);
        x.relay(2, 0, 1);
        x.carry(8, 0, 1);
        x.province(1);
        x.province(2);
        x.labour(0, 50);
        x.labour(1, 1);
        x.rate(1, 20);
        x.rate(2, 3);
        x.house(1);
        x.house(3);
        x.put(0, 0, 400);
        x.put(1, 1, 600);
        x.put(1, 2, 40);
        return x;
    }

    private static final Probe.Making NEW = Quipuhall::new;
    private static final Probe.Making REALM = RefusalTest::realm;

    /** The realm with 60 cords, the main cord 8 with four full groups among them. */
    private static Quipuhall sixty() {
        Quipuhall x = realm();
        fillGroups(x, SECOND_MAIN, 4);
        for (int i = 0; i < 9; i++) {
            x.hang(FRAGMENT, 'h', 0, 'c');
            if (i == 7) {
                x.group(FRAGMENT);
            }
        }
        x.group(FRAGMENT);
        for (int i = 0; i < 3; i++) {
            x.hang(FRAGMENT, 't', 0, 'c');
        }
        return x;
    }

    private static void fillGroups(Quipuhall x, int cord, int groups) {
        for (int i = 1; i <= groups * 9; i++) {
            x.hang(cord, 'h', 0, 'c');
            if (i % 9 == 0 && i < groups * 9) {
                x.group(cord);
            }
        }
    }

    private static final Probe.Making SIXTY = RefusalTest::sixty;

    private static Quipuhall sixMains() {
        Quipuhall x = realm();
        x.main();
        x.main();
        x.main();
        return x;
    }

    private static final Probe.Making SIX_MAINS = RefusalTest::sixMains;

    // Promises 2 to 4

    private static void main() {
        row("main: six were made", STATE, SIX_MAINS, x -> x.main());
        row("main: 60 cords", STATE, SIXTY, x -> x.main());
        row("main: both", STATE, with(SIX_MAINS, x -> {
            fillGroups(x, SECOND_MAIN, 4);
            fillGroups(x, CORDS, 1);
        }), x -> x.main());
    }

    private static void group() {
        noneOf("group", 0, NEW, Quipuhall::group);
        noneOf("group", CORDS, REALM, Quipuhall::group);
        noneOf("group", 60, SIXTY, Quipuhall::group);
        row("group: no cord yet on a main cord", UNSUPPORTED, REALM, x -> x.group(SECOND_MAIN));
        row("group: no cord yet", UNSUPPORTED, REALM, x -> x.group(HIGHEST));
        row("group: an empty second one", UNSUPPORTED, with(REALM, x -> x.group(MAIN)),
                x -> x.group(MAIN));
        row("group: one emptied by a cut", UNSUPPORTED, with(REALM, x -> x.cut(4)),
                x -> x.group(MAIN));
        Probe.Making four = with(REALM, x -> {
            x.group(MAIN);
            x.hang(MAIN, 'h', 0, 'c');
            x.group(MAIN);
        });
        row("group: an empty one, and four", UNSUPPORTED, four, x -> x.group(MAIN));
        row("group: four", STATE, with(four, x -> x.hang(MAIN, 'h', 0, 'c')),
                x -> x.group(MAIN));
    }

    private static void hang() {
        noneOf("hang", 0, NEW, (x, cord) -> x.hang(cord, 'h', 0, 'c'));
        noneOf("hang", CORDS, REALM, (x, cord) -> x.hang(cord, 'h', 0, 'c'));
        noneOf("hang: and no sort", CORDS, REALM, (x, cord) -> x.hang(cord, 'q', 0, 'c'));
        noneOf("hang: and no role", CORDS, REALM, (x, cord) -> x.hang(cord, 'h', 0, 'q'));
        noneOf("hang: and no colours", CORDS, REALM, (x, cord) -> x.hang(cord, 'h', 512, 'c'));
        noneOf("hang: and 60 cords", 60, SIXTY, (x, cord) -> x.hang(cord, 'h', 0, 'c'));
        row("hang: no sort", ARGUMENT, REALM, x -> x.hang(MAIN, 'g', 0, 'c'));
        row("hang: no role", ARGUMENT, REALM, x -> x.hang(MAIN, 't', 0, 'h'));
        outside("hang: colours", 0, 511, REALM, (x, wrong) -> x.hang(MAIN, 't', wrong, 'c'));
        row("hang: no role, and the other sort", ARGUMENT, REALM,
                x -> x.hang(MAIN, 'h', 0, 'q'));
        row("hang: no sort, and too high", ARGUMENT, REALM, x -> x.hang(HIGHEST, 'q', 0, 'c'));
        row("hang: no colours, and too high", ARGUMENT, REALM,
                x -> x.hang(HIGHEST, 'h', -1, 'c'));
        row("hang: too high", UNSUPPORTED, REALM, x -> x.hang(HIGHEST, 'h', 0, 'c'));
        row("hang: too high for the other sort too", UNSUPPORTED, REALM,
                x -> x.hang(HIGHEST, 't', 0, 'c'));
    }

    private static void hangBySort() {
        row("hang: the other sort", UNSUPPORTED, REALM, x -> x.hang(MAIN, 'h', 0, 'c'));
        row("hang: the other sort", UNSUPPORTED, REALM, x -> x.hang(2, 'h', 0, 'c'));
        row("hang: the other sort", UNSUPPORTED, REALM, x -> x.hang(4, 't', 0, 'c'));
        Probe.Making nine = with(REALM, x -> fillGroups(x, SECOND_MAIN, 1));
        row("hang: nine cords", UNSUPPORTED, nine, x -> x.hang(SECOND_MAIN, 'h', 0, 'c'));
        row("hang: nine cords of the other sort", UNSUPPORTED, nine,
                x -> x.hang(SECOND_MAIN, 't', 0, 'c'));
        row("hang: no sort, and nine cords", ARGUMENT, nine,
                x -> x.hang(SECOND_MAIN, 's', 0, 'c'));
        row("hang: nine cords in the fourth group", UNSUPPORTED,
                with(REALM, x -> fillGroups(x, SECOND_MAIN, 4)),
                x -> x.hang(SECOND_MAIN, 'h', 0, 'c'));
    }

    private static void hangAtSixty() {
        row("hang: no sort, and 60 cords", ARGUMENT, SIXTY, x -> x.hang(MAIN, 'q', 0, 'c'));
        row("hang: no role, and 60 cords", ARGUMENT, SIXTY, x -> x.hang(MAIN, 't', 0, 'q'));
        row("hang: no colours, and 60 cords", ARGUMENT, SIXTY,
                x -> x.hang(MAIN, 't', 512, 'c'));
        row("hang: the other sort, and 60 cords", UNSUPPORTED, SIXTY,
                x -> x.hang(MAIN, 'h', 0, 'c'));
        row("hang: nine cords, and 60 cords", UNSUPPORTED, SIXTY,
                x -> x.hang(SECOND_MAIN, 'h', 0, 'c'));
        row("hang: too high, and 60 cords", UNSUPPORTED, SIXTY,
                x -> x.hang(HIGHEST, 'h', 0, 'c'));
        row("hang: 60 cords", STATE, SIXTY, x -> x.hang(MAIN, 't', 511, 'd'));
        row("hang: 60 cords", STATE, SIXTY, x -> x.hang(ON_FRAGMENT, 'h', 0, 'c'));
        row("hang: 60 cords, with fragments", STATE, with(SIXTY, x -> x.cut(59)),
                x -> x.hang(59, 'h', 0, 'c'));
    }

    // Promises 5 to 9

    private static void tie() {
        noneOf("tie", 0, NEW, (x, cord) -> x.tie(cord, 0, 'e', 1));
        noneOf("tie", CORDS, REALM, (x, cord) -> x.tie(cord, 0, 'e', 1));
        noneOf("tie: and no place", CORDS, REALM, (x, cord) -> x.tie(cord, 7, 's', 1));
        noneOf("tie: and no sort", CORDS, REALM, (x, cord) -> x.tie(cord, 0, 'q', 1));
        noneOf("tie: and no turns", CORDS, REALM, (x, cord) -> x.tie(cord, 0, 's', 0));
        for (int place = 0; place < 7; place++) {
            int at = place;
            outside("tie: s", 1, 9, REALM, (x, turns) -> x.tie(COUNT, at, 's', turns));
            outside("tie: l", 2, 9, REALM, (x, turns) -> x.tie(COUNT, at, 'l', turns));
            outside("tie: e", 1, 1, REALM, (x, turns) -> x.tie(COUNT, at, 'e', turns));
            outside("tie: n", 1, 9, REALM, (x, turns) -> x.tie(COUNT, at, 'n', turns));
        }
        outside("tie: place", 0, 6, REALM, (x, place) -> x.tie(COUNT, place, 's', 1));
        for (char sort : new char[] {'r', 't', 'k', 'm', 'd', 'f', 'o', 'S', ' ', 0, 65535}) {
            row("tie: sort " + (int) sort, ARGUMENT, REALM, x -> x.tie(COUNT, 0, sort, 1));
        }
    }

    private static void untieAndWrite() {
        noneOf("untie", 0, NEW, (x, cord) -> x.untie(cord, 0));
        noneOf("untie", CORDS, REALM, (x, cord) -> x.untie(cord, 0));
        noneOf("untie: and no place", CORDS, REALM, (x, cord) -> x.untie(cord, 7));
        outside("untie", 0, 6, REALM, (x, place) -> x.untie(COUNT, place));
        noneOf("write", 0, NEW, (x, cord) -> x.write(cord, 0));
        noneOf("write", CORDS, REALM, (x, cord) -> x.write(cord, 1));
        noneOf("write: and no number", CORDS, REALM, (x, cord) -> x.write(cord, -1));
        outside("write", 0, 9999999, REALM, (x, number) -> x.write(COUNT, number));
        outside("write", 0, 9999999, REALM, (x, number) -> x.write(STRANGE, number));
    }

    // Promises 8 to 20, those that ask a cord alone

    private static void cordsAsked() {
        CallOn[] calls = {Quipuhall::isNumber, Quipuhall::value, Quipuhall::due,
            Quipuhall::isQuarrelling, Quipuhall::on, Quipuhall::code, Quipuhall::name};
        for (CallOn call : calls) {
            noneOf("asked", 0, NEW, call);
            noneOf("asked", CORDS, REALM, call);
        }
        row("value: no number", UNSUPPORTED, REALM, x -> x.value(STRANGE));
        row("name: a number", UNSUPPORTED, REALM, x -> x.name(MAIN));
        row("name: a number without knots", UNSUPPORTED, with(REALM, x -> x.write(STRANGE, 0)),
                x -> x.name(STRANGE));
    }

    private static void due() {
        row("due: a count", ELEMENT, REALM, x -> x.due(COUNT));
        row("due: a count with cords on it", ELEMENT, REALM, x -> x.due(6));
        row("due: a sum of none", ELEMENT, REALM, x -> x.due(SECOND_MAIN));
        row("due: a sum of no number", ELEMENT, with(REALM, x -> x.tie(COUNT, 3, 'e', 1)),
                x -> x.due(MAIN));
        row("due: a difference of none", ELEMENT, with(REALM, x -> x.hang(MAIN, 't', 0, 'd')),
                x -> x.due(CORDS));
        row("due: a difference of no number", ELEMENT,
                with(REALM, x -> x.tie(6, 0, 's', 2)), x -> x.due(5));
        row("due: no group ahead", ELEMENT, with(REALM, x -> x.hang(4, 'h', 0, 'g')),
                x -> x.due(CORDS));
        row("due: the group ahead is empty", ELEMENT, with(REALM, x -> {
            x.cut(1);
            x.cut(2);
        }), x -> x.due(4));
        row("due: the group ahead has no number", ELEMENT,
                with(REALM, x -> x.tie(2, 0, 'n', 1)), x -> x.due(4));
        row("due: g for a fragment", ELEMENT, with(REALM, x -> x.cut(4)), x -> x.due(4));
    }

    // Promises 12 to 18, those that ask a tree

    private static void treesAsked() {
        CallOn[] calls = {Quipuhall::quarrel, Quipuhall::size, Quipuhall::counted,
            Quipuhall::likely};
        for (CallOn call : calls) {
            noneOf("asked", 0, NEW, call);
            noneOf("asked", CORDS, REALM, call);
            row("on a main cord", UNSUPPORTED, REALM, x -> call.of(x, COUNT));
            row("at the highest", UNSUPPORTED, REALM, x -> call.of(x, HIGHEST));
            row("on a fragment", UNSUPPORTED, REALM, x -> call.of(x, ON_FRAGMENT));
            row("a fragment that was joined", UNSUPPORTED, with(REALM, x -> {
                x.write(SECOND_MAIN, 8);
                x.join(FRAGMENT, SECOND_MAIN);
            }), x -> call.of(x, FRAGMENT));
        }
    }

    private static void cordAt() {
        noneOf("cordAt", 0, NEW, (x, cord) -> x.cordAt(cord, 0));
        noneOf("cordAt", CORDS, REALM, (x, cord) -> x.cordAt(cord, 0));
        noneOf("cordAt: and no index", CORDS, REALM, (x, cord) -> x.cordAt(cord, -1));
        row("cordAt: no tree", UNSUPPORTED, REALM, x -> x.cordAt(COUNT, 0));
        row("cordAt: no tree, and no index", UNSUPPORTED, REALM, x -> x.cordAt(COUNT, 1));
        row("cordAt: no tree, and no index", UNSUPPORTED, REALM, x -> x.cordAt(COUNT, -1));
        int[] sizes = {8, 1, 2};
        int[] roots = {MAIN, SECOND_MAIN, FRAGMENT};
        for (int i = 0; i < roots.length; i++) {
            int root = roots[i];
            int size = sizes[i];
            Check.same("cordAt: the first index", () -> realm().cordAt(root, 0), root);
            Check.same("cordAt: the last index", () -> realm().cordAt(root, size - 1),
                    root == MAIN ? HIGHEST : root == SECOND_MAIN ? root : ON_FRAGMENT);
            for (int index : new int[] {-1, size, Integer.MIN_VALUE, Integer.MAX_VALUE}) {
                row("cordAt: no index", ELEMENT, REALM, x -> x.cordAt(root, index));
            }
        }
    }

    private static void likelyAt() {
        Probe.Making strangeless = with(REALM, x -> x.cut(5));
        Check.same("likelyAt: so many", () -> strangeless.make().likely(MAIN), 1);
        noneOf("likelyAt", 0, NEW, (x, cord) -> x.likelyAt(cord, 0, 'c'));
        noneOf("likelyAt", CORDS, strangeless, (x, cord) -> x.likelyAt(cord, 0, 'c'));
        noneOf("likelyAt: and no thing", CORDS, strangeless,
                (x, cord) -> x.likelyAt(cord, 0, 'q'));
        noneOf("likelyAt: and no index", CORDS, strangeless,
                (x, cord) -> x.likelyAt(cord, -1, 'c'));
        for (char what : new char[] {'b', 'e', 'o', 'q', 'C', ' ', 0, 65535}) {
            row("likelyAt: no thing", ARGUMENT, strangeless, x -> x.likelyAt(MAIN, 0, what));
            row("likelyAt: no thing, and no tree", ARGUMENT, strangeless,
                    x -> x.likelyAt(COUNT, 0, what));
            row("likelyAt: no thing, and no index", ARGUMENT, strangeless,
                    x -> x.likelyAt(MAIN, 1, what));
        }
        row("likelyAt: no tree", UNSUPPORTED, strangeless, x -> x.likelyAt(COUNT, 0, 'c'));
        row("likelyAt: no tree, and no index", UNSUPPORTED, strangeless,
                x -> x.likelyAt(ON_FRAGMENT, -1, 'p'));
        for (int index : new int[] {-1, 1, Integer.MIN_VALUE, Integer.MAX_VALUE}) {
            row("likelyAt: no index", ELEMENT, strangeless, x -> x.likelyAt(MAIN, index, 'd'));
        }
        row("likelyAt: no change at all", ELEMENT, REALM, x -> x.likelyAt(SECOND_MAIN, 0, 'c'));
    }

    // Promises 21 to 24

    private static void readers() {
        row("reader: six", STATE, with(REALM, x -> {
            for (int i = 2; i < 6; i++) {
                x.reader();
            }
        }), x -> x.reader());
    }

    private static void learn() {
        noneOf("learn: no cord", 0, with(NEW, x -> x.reader()), (x, cord) -> x.learn(0, cord, 1));
        noneOf("learn: reader", 0, with(NEW, x -> {
            x.main();
            x.tie(0, 0, 'n', 1);
        }), (x, reader) -> x.learn(reader, 0, 1));
        noneOf("learn: reader", 2, REALM, (x, reader) -> x.learn(reader, STRANGE, 1));
        noneOf("learn: cord", CORDS, REALM, (x, cord) -> x.learn(1, cord, 1));
        noneOf("learn: reader and cord", CORDS, REALM, (x, number) -> x.learn(number, number, 1));
        noneOf("learn: reader, and no word", 2, REALM,
                (x, reader) -> x.learn(reader, STRANGE, 100));
        noneOf("learn: cord, and no word", CORDS, REALM, (x, cord) -> x.learn(1, cord, -1));
        noneOf("learn: reader, and a number", 2, REALM, (x, reader) -> x.learn(reader, MAIN, 1));
        outside("learn: word", 0, 99, REALM, (x, word) -> x.learn(1, STRANGE, word));
        outside("learn: word, and a number", 0, 99, REALM, (x, word) -> x.learn(1, MAIN, word));
        outside("learn: word, and a known name", 0, 99, REALM,
                (x, word) -> x.learn(0, STRANGE, word));
        row("learn: a number", UNSUPPORTED, REALM, x -> x.learn(1, MAIN, 1));
        row("learn: a known name", UNSUPPORTED, REALM, x -> x.learn(0, STRANGE, 1));
        row("learn: a known name of the same word", UNSUPPORTED, REALM,
                x -> x.learn(0, STRANGE, 70));
        row("learn: a name that was taught", UNSUPPORTED, with(REALM, x -> x.teach(0, 1)),
                x -> x.learn(1, STRANGE, 1));
        row("learn: a known name of another cord", UNSUPPORTED,
                with(REALM, x -> {
                    x.write(COUNT, 0);
                    x.tie(COUNT, 2, 'n', 3);
                }), x -> x.learn(0, COUNT, 1));
    }

    private static void teachAndWord() {
        noneOf("teach: none", 0, NEW, (x, both) -> x.teach(both, both));
        noneOf("teach: other than the only one", 1, with(NEW, x -> x.reader()),
                (x, other) -> x.teach(0, other));
        noneOf("word: no reader", 0, with(NEW, x -> x.main()), (x, reader) -> x.word(reader, 0));
        noneOf("word: no cord", 0, with(NEW, x -> x.reader()), (x, cord) -> x.word(0, cord));
        noneOf("teach: reader", 2, REALM, (x, reader) -> x.teach(reader, 1));
        noneOf("teach: other", 2, REALM, (x, other) -> x.teach(0, other));
        noneOf("teach: both, and the same", 2, REALM, (x, reader) -> x.teach(reader, reader));
        row("teach: the same", ARGUMENT, REALM, x -> x.teach(0, 0));
        row("teach: the same", ARGUMENT, REALM, x -> x.teach(1, 1));
        noneOf("word: reader", 2, REALM, (x, reader) -> x.word(reader, STRANGE));
        noneOf("word: cord", CORDS, REALM, (x, cord) -> x.word(0, cord));
        noneOf("word: reader, and a number", 2, REALM, (x, reader) -> x.word(reader, MAIN));
        row("word: a number", UNSUPPORTED, REALM, x -> x.word(0, MAIN));
        row("word: a number now", UNSUPPORTED, with(REALM, x -> x.write(STRANGE, 1)),
                x -> x.word(0, STRANGE));
        row("word: not known", ELEMENT, REALM, x -> x.word(1, STRANGE));
        row("word: another name", ELEMENT, with(REALM, x -> x.tie(STRANGE, 2, 'n', 4)),
                x -> x.word(0, STRANGE));
    }

    // Promises 25 to 27

    private static void relay() {
        Probe.Making six = with(REALM, x -> {
            for (int i = 2; i < 6; i++) {
                x.relay(i, i, i);
            }
        });
        for (Probe.Making making : new Probe.Making[] {REALM, six}) {
            outside("relay: step", 0, 9, making, (x, step) -> x.relay(step, 0, 1));
            outside("relay: place", 0, 6, making, (x, place) -> x.relay(1, place, 1));
            outside("relay: shift", 1, 9, making, (x, shift) -> x.relay(1, 0, shift));
        }
        row("relay: six", STATE, six, x -> x.relay(0, 0, 1));
        row("relay: six", STATE, six, x -> x.relay(9, 6, 9));
    }

    private static void carry() {
        noneOf("carry: no cord", 0, with(NEW, x -> x.relay(1, 0, 1)),
                (x, cord) -> x.carry(cord, 0, 0));
        noneOf("carry: no relay", 0, with(NEW, x -> x.main()), (x, from) -> x.carry(0, from, from));
        noneOf("carry: cord", CORDS, REALM, (x, cord) -> x.carry(cord, 0, 1));
        noneOf("carry: from", 2, REALM, (x, from) -> x.carry(MAIN, from, 1));
        noneOf("carry: to", 2, REALM, (x, to) -> x.carry(MAIN, 0, to));
        noneOf("carry: from and to", 2, REALM, (x, both) -> x.carry(MAIN, both, both));
        noneOf("carry: cord, and lower", CORDS, REALM, (x, cord) -> x.carry(cord, 1, 0));
        noneOf("carry: from, and no main cord", 2, REALM, (x, from) -> x.carry(COUNT, from, 1));
        noneOf("carry: to, and six", 2, SIX_MAINS, (x, to) -> x.carry(MAIN, 1, to));
        noneOf("carry: to, and 60 cords", 2, SIXTY, (x, to) -> x.carry(MAIN, 1, to));
        row("carry: lower", ARGUMENT, REALM, x -> x.carry(MAIN, 1, 0));
        row("carry: lower, and no main cord", ARGUMENT, REALM, x -> x.carry(COUNT, 1, 0));
        row("carry: lower, and a fragment", ARGUMENT, REALM, x -> x.carry(FRAGMENT, 1, 0));
        row("carry: lower, and six", ARGUMENT, SIX_MAINS, x -> x.carry(MAIN, 1, 0));
        row("carry: lower, and 60 cords", ARGUMENT, SIXTY, x -> x.carry(MAIN, 1, 0));
        row("carry: no main cord", UNSUPPORTED, REALM, x -> x.carry(COUNT, 0, 1));
        row("carry: a fragment", UNSUPPORTED, REALM, x -> x.carry(FRAGMENT, 0, 0));
        row("carry: on a fragment", UNSUPPORTED, REALM, x -> x.carry(ON_FRAGMENT, 1, 1));
        row("carry: no main cord, and six", UNSUPPORTED, SIX_MAINS, x -> x.carry(COUNT, 0, 1));
        row("carry: a fragment, and 60 cords", UNSUPPORTED, SIXTY,
                x -> x.carry(FRAGMENT, 0, 1));
        row("carry: six", STATE, SIX_MAINS, x -> x.carry(MAIN, 0, 1));
        row("carry: 60 cords", STATE, SIXTY, x -> x.carry(MAIN, 0, 1));
        // 12 and 36 are there, and the tree has 8, so that five more leave room for 61.
        row("carry: 61 cords", STATE, with(REALM, x -> {
            fillGroups(x, SECOND_MAIN, 4);
            for (int i = 0; i < 5; i++) {
                x.hang(ON_FRAGMENT, 'h', 0, 'c');
            }
        }), x -> x.carry(MAIN, 0, 1));
        Check.same("carry: 60 cords", () -> with(REALM, x -> {
            fillGroups(x, SECOND_MAIN, 4);
            for (int i = 0; i < 4; i++) {
                x.hang(ON_FRAGMENT, 'h', 0, 'c');
            }
        }).make().carry(MAIN, 0, 1), 52);
    }

    private static void unlike() {
        noneOf("unlike", 0, NEW, (x, both) -> x.unlike(both, both));
        noneOf("unlike: first", CORDS, REALM, (x, cord) -> x.unlike(cord, MAIN));
        noneOf("unlike: other", CORDS, REALM, (x, other) -> x.unlike(MAIN, other));
        noneOf("unlike: both", CORDS, REALM, (x, both) -> x.unlike(both, both));
        noneOf("unlike: first, and no tree", CORDS, REALM, (x, cord) -> x.unlike(cord, COUNT));
        noneOf("unlike: other, and no tree", CORDS, REALM, (x, other) -> x.unlike(COUNT, other));
        row("unlike: first no tree", UNSUPPORTED, REALM, x -> x.unlike(COUNT, MAIN));
        row("unlike: other no tree", UNSUPPORTED, REALM, x -> x.unlike(MAIN, ON_FRAGMENT));
        row("unlike: the same, and no tree", UNSUPPORTED, REALM, x -> x.unlike(COUNT, COUNT));
        row("unlike: leaves of one size", UNSUPPORTED, REALM, x -> x.unlike(COUNT, SECOND_MAIN));
        row("unlike: leaves of one size", UNSUPPORTED, REALM, x -> x.unlike(SECOND_MAIN, COUNT));
        row("unlike: more cords", UNSUPPORTED, REALM, x -> x.unlike(FRAGMENT, SECOND_MAIN));
        row("unlike: fewer cords", UNSUPPORTED, REALM, x -> x.unlike(SECOND_MAIN, FRAGMENT));
    }

    // Promises 28 to 34

    private static void province() {
        noneOf("province", 0, NEW, Quipuhall::province);
        noneOf("province", CORDS, REALM, Quipuhall::province);
        Probe.Making four = with(REALM, x -> {
            x.province(3);
            x.province(4);
        });
        noneOf("province: and four", CORDS, four, Quipuhall::province);
        row("province: no number", UNSUPPORTED, REALM, x -> x.province(STRANGE));
        row("province: no number, and four", UNSUPPORTED, four, x -> x.province(STRANGE));
        row("province: four", STATE, four, x -> x.province(COUNT));
    }

    private static void rate() {
        outside("rate: good", 0, 3, REALM, (x, good) -> x.rate(good, 5));
        for (int i = 0; i < 4; i++) {
            int good = i;
            outside("rate: days", 1, 20, REALM, (x, days) -> x.rate(good, days));
        }
        outside("rate: both", 0, 20, REALM, (x, both) -> x.rate(both, both));
    }

    private static void labourAndRemit() {
        noneOf("labour", 0, NEW, (x, province) -> x.labour(province, 1));
        noneOf("labour", 2, REALM, (x, province) -> x.labour(province, 1));
        noneOf("labour: and no days", 2, REALM, (x, province) -> x.labour(province, 0));
        outside("labour: days", 1, 99, REALM, (x, days) -> x.labour(0, days));
        noneOf("remit", 0, NEW, (x, province) -> x.remit(province, 1));
        noneOf("remit", 2, REALM, (x, province) -> x.remit(province, 100));
        noneOf("remit: and no hundredths", 2, REALM, (x, province) -> x.remit(province, 101));
        outside("remit: hundredths", 0, 100, REALM, (x, part) -> x.remit(0, part));
        noneOf("owes", 0, NEW, Quipuhall::owes);
        noneOf("owes", 2, REALM, Quipuhall::owes);
    }

    private static void pay() {
        noneOf("pay", 0, NEW, (x, province) -> x.pay(province, 0, 1));
        noneOf("pay", 2, REALM, (x, province) -> x.pay(province, 0, 1));
        noneOf("pay: and no good", 2, REALM, (x, province) -> x.pay(province, 4, 1));
        noneOf("pay: and no pieces", 2, REALM, (x, province) -> x.pay(province, 0, 0));
        outside("pay: good", 0, 3, REALM, (x, good) -> x.pay(0, good, 1));
        outside("pay: good, and it owes less", 0, 3, REALM, (x, good) -> x.pay(0, good, 9999));
        for (int i = 0; i < 4; i++) {
            int good = i;
            outside("pay: pieces", 1, 9999, REALM, (x, pieces) -> x.pay(0, good, pieces));
        }
        Probe.Making poor = with(REALM, x -> x.remit(0, 100));
        outside("pay: pieces, and it owes less", 1, 9999, poor,
                (x, pieces) -> x.pay(0, 0, pieces));
        row("pay: it owes nothing", UNSUPPORTED, poor, x -> x.pay(0, 0, 1));
        // The first province owes 600; a piece is worth 1, 20, 3 and 1 days.
        int[] most = {600, 30, 200, 600};
        for (int i = 0; i < 4; i++) {
            int good = i;
            row("pay: one piece more than it owes", UNSUPPORTED, REALM,
                    x -> x.pay(0, good, most[good] + 1));
            Check.same("pay: all that it owes", () -> realm().pay(0, good, most[good]), 0);
        }
        row("pay: one day less", UNSUPPORTED, with(REALM, x -> x.pay(0, 0, 1)),
                x -> x.pay(0, 1, 30));
    }

    private static void move() {
        noneOf("move", 0, NEW, (x, both) -> x.move(both, both, 1));
        noneOf("move: province", 2, REALM, (x, province) -> x.move(province, 1, 1));
        noneOf("move: other", 2, REALM, (x, other) -> x.move(0, other, 1));
        noneOf("move: both, and the same", 2, REALM, (x, both) -> x.move(both, both, 1));
        noneOf("move: province, and no days", 2, REALM, (x, province) -> x.move(province, 1, 0));
        noneOf("move: other, and it owes less", 2, REALM, (x, other) -> x.move(0, other, 999));
        row("move: the same", ARGUMENT, REALM, x -> x.move(0, 0, 1));
        row("move: the same", ARGUMENT, REALM, x -> x.move(1, 1, 30));
        row("move: the same, and it owes less", ARGUMENT, REALM, x -> x.move(1, 1, 31));
        outside("move: days", 1, 999999, REALM, (x, days) -> x.move(0, 1, days));
        Probe.Making poor = with(REALM, x -> x.remit(0, 100));
        outside("move: days, and it owes less", 1, 999999, poor, (x, days) -> x.move(0, 1, days));
        row("move: it owes nothing", UNSUPPORTED, poor, x -> x.move(0, 1, 1));
        row("move: one day more than it owes", UNSUPPORTED, REALM, x -> x.move(0, 1, 601));
        row("move: the other way", UNSUPPORTED, REALM, x -> x.move(1, 0, 31));
        Check.same("move: all that it owes", () -> realm().move(0, 1, 600), 630);
        Check.same("move: all that it owes", () -> realm().move(1, 0, 30), 630);
    }

    // Promises 35 to 39

    private static void house() {
        Probe.Making three = with(REALM, x -> x.house(6));
        outside("house: rooms", 1, 6, NEW, Quipuhall::house);
        outside("house: rooms", 1, 6, REALM, Quipuhall::house);
        outside("house: rooms, and three", 1, 6, three, Quipuhall::house);
        row("house: three", STATE, three, x -> x.house(1));
        row("house: three", STATE, three, x -> x.house(6));
    }

    private static void put() {
        noneOf("put", 0, NEW, (x, house) -> x.put(house, 0, 1));
        noneOf("put", 2, REALM, (x, house) -> x.put(house, 0, 1));
        noneOf("put: and no good", 2, REALM, (x, house) -> x.put(house, -1, 1));
        noneOf("put: and no pieces", 2, REALM, (x, house) -> x.put(house, 0, 1000));
        outside("put: good", 0, 3, REALM, (x, good) -> x.put(1, good, 1));
        outside("put: pieces", 1, 999, REALM, (x, pieces) -> x.put(1, 1, pieces));
        outside("put: good, and no room", 0, 3, REALM, (x, good) -> x.put(0, good, 101));
        Probe.Making full = with(REALM, x -> x.put(0, 0, 100));
        outside("put: pieces, and no room", 1, 999, full, (x, pieces) -> x.put(0, 0, pieces));
        row("put: a full room", UNSUPPORTED, full, x -> x.put(0, 0, 1));
        row("put: one piece too many", UNSUPPORTED, REALM, x -> x.put(0, 0, 101));
        row("put: a room of another good", UNSUPPORTED, REALM, x -> x.put(0, 1, 1));
        row("put: one too many over rooms", UNSUPPORTED, REALM, x -> x.put(1, 1, 401));
        row("put: one too many over rooms", UNSUPPORTED, REALM, x -> x.put(1, 2, 461));
        row("put: no room is empty", UNSUPPORTED, REALM, x -> x.put(1, 3, 1));
        Check.same("put: just so many", () -> realm().put(1, 1, 400), 1000);
        Check.same("put: just so many", () -> realm().put(1, 2, 460), 500);
    }

    private static void draw() {
        Probe.Making few = with(REALM, x -> x.write(COUNT, 601));
        noneOf("draw: no cord", 0, with(NEW, x -> x.house(1)), (x, cord) -> x.draw(0, 0, cord));
        noneOf("draw: house", 0, with(NEW, x -> x.main()), (x, house) -> x.draw(house, 0, 0));
        noneOf("draw: house", 2, REALM, (x, house) -> x.draw(house, 0, COUNT));
        noneOf("draw: cord", CORDS, REALM, (x, cord) -> x.draw(0, 0, cord));
        noneOf("draw: house, and no good", 2, REALM, (x, house) -> x.draw(house, 4, COUNT));
        noneOf("draw: cord, and no good", CORDS, REALM, (x, cord) -> x.draw(0, -1, cord));
        noneOf("draw: house, and no number", 2, REALM, (x, house) -> x.draw(house, 0, STRANGE));
        outside("draw: good", 0, 3, REALM, (x, good) -> x.draw(1, good, COUNT));
        outside("draw: good, and no number", 0, 3, REALM, (x, good) -> x.draw(1, good, STRANGE));
        outside("draw: good, and not so many", 0, 3, few, (x, good) -> x.draw(1, good, COUNT));
        row("draw: no number", UNSUPPORTED, REALM, x -> x.draw(1, 1, STRANGE));
        row("draw: one too many", UNSUPPORTED, few, x -> x.draw(1, 1, COUNT));
        row("draw: none of that good", UNSUPPORTED, REALM, x -> x.draw(1, 0, 6));
        row("draw: none of that good", UNSUPPORTED, REALM, x -> x.draw(0, 3, 6));
        row("draw: another storehouse has them", UNSUPPORTED, REALM, x -> x.draw(1, 0, COUNT));
        row("draw: the largest order", UNSUPPORTED, with(REALM, x -> x.write(COUNT, 9999999)),
                x -> x.draw(1, 1, COUNT));
        Check.same("draw: just so many", () -> with(REALM, x -> x.write(COUNT, 600)).make()
                .draw(1, 1, COUNT), 0);
    }

    private static void pieces() {
        noneOf("pieces: house", 0, NEW, (x, house) -> x.pieces(house, 0, 0));
        noneOf("pieces: house", 2, REALM, (x, house) -> x.pieces(house, 0, 0));
        noneOf("pieces: room", 1, REALM, (x, room) -> x.pieces(0, room, 0));
        noneOf("pieces: room", 3, REALM, (x, room) -> x.pieces(1, room, 0));
        noneOf("pieces: room", 6, with(REALM, x -> x.house(6)), (x, room) -> x.pieces(2, room, 0));
        noneOf("pieces: house, and no good", 2, REALM, (x, house) -> x.pieces(house, 0, 4));
        noneOf("pieces: room, and no good", 1, REALM, (x, room) -> x.pieces(0, room, -1));
        outside("pieces: good", 0, 3, REALM, (x, good) -> x.pieces(1, 2, good));
    }

    // Promises 40 to 46

    private static void cut() {
        noneOf("cut", 0, NEW, Quipuhall::cut);
        noneOf("cut", CORDS, REALM, Quipuhall::cut);
        row("cut: a main cord", UNSUPPORTED, REALM, x -> x.cut(MAIN));
        row("cut: a main cord without cords", UNSUPPORTED, REALM, x -> x.cut(SECOND_MAIN));
        row("cut: a copy", UNSUPPORTED, REALM, x -> x.cut(11));
        row("cut: a fragment", UNSUPPORTED, REALM, x -> x.cut(FRAGMENT));
    }

    private static void fragmentsAsked() {
        noneOf("fits", 0, NEW, (x, both) -> x.fits(both, both));
        noneOf("join", 0, NEW, (x, both) -> x.join(both, both));
        noneOf("fits: first", CORDS, REALM, (x, cord) -> x.fits(cord, MAIN));
        noneOf("fits: other", CORDS, REALM, (x, other) -> x.fits(FRAGMENT, other));
        noneOf("fits: both", CORDS, REALM, (x, both) -> x.fits(both, both));
        noneOf("fits: other, and no fragment", CORDS, REALM, (x, other) -> x.fits(MAIN, other));
        noneOf("matches", 0, NEW, Quipuhall::matches);
        noneOf("matches", CORDS, REALM, Quipuhall::matches);
        for (int none : new int[] {MAIN, COUNT, SECOND_MAIN, ON_FRAGMENT, 11}) {
            row("fits: no fragment", UNSUPPORTED, REALM, x -> x.fits(none, SECOND_MAIN));
            row("fits: no fragment", UNSUPPORTED, REALM, x -> x.fits(none, FRAGMENT));
            row("matches: no fragment", UNSUPPORTED, REALM, x -> x.matches(none));
        }
    }

    private static void join() {
        // The fragment tells 8, and the second main cord too, so that it fits there.
        Probe.Making fit = with(REALM, x -> x.write(SECOND_MAIN, 8));
        Check.same("join: it fits", () -> fit.make().join(FRAGMENT, SECOND_MAIN), 1);
        noneOf("join: first", CORDS, fit, (x, cord) -> x.join(cord, SECOND_MAIN));
        noneOf("join: other", CORDS, fit, (x, other) -> x.join(FRAGMENT, other));
        noneOf("join: both", CORDS, fit, (x, both) -> x.join(both, both));
        noneOf("join: other, and no fragment", CORDS, fit, (x, other) -> x.join(COUNT, other));
        noneOf("join: first, and no sum", CORDS, fit, (x, cord) -> x.join(cord, COUNT));
        row("join: a main cord", UNSUPPORTED, fit, x -> x.join(11, SECOND_MAIN));
        row("join: on a main cord", UNSUPPORTED, fit, x -> x.join(COUNT, SECOND_MAIN));
        row("join: on a fragment", UNSUPPORTED, fit, x -> x.join(ON_FRAGMENT, SECOND_MAIN));
        row("join: joined before", UNSUPPORTED,
                with(fit, x -> x.join(FRAGMENT, SECOND_MAIN)),
                x -> x.join(FRAGMENT, SECOND_MAIN));
        row("join: itself", UNSUPPORTED, fit, x -> x.join(FRAGMENT, FRAGMENT));
        row("join: on it", UNSUPPORTED, fit, x -> x.join(FRAGMENT, ON_FRAGMENT));
        row("join: a count", UNSUPPORTED, fit, x -> x.join(FRAGMENT, COUNT));
        row("join: it would quarrel", UNSUPPORTED, REALM, x -> x.join(FRAGMENT, SECOND_MAIN));
        row("join: it is no number", UNSUPPORTED,
                with(fit, x -> x.tie(SECOND_MAIN, 3, 'l', 2)),
                x -> x.join(FRAGMENT, SECOND_MAIN));
        row("join: the other sort", UNSUPPORTED, with(fit, x -> x.hang(SECOND_MAIN, 'h', 0, 'c')),
                x -> x.join(FRAGMENT, SECOND_MAIN));
        row("join: nine cords", UNSUPPORTED, with(fit, x -> {
            for (int i = 0; i < 9; i++) {
                x.hang(SECOND_MAIN, 't', 0, 'c');
            }
        }), x -> x.join(FRAGMENT, SECOND_MAIN));
        Probe.Making strange = with(REALM, x -> {
            x.hang(SECOND_MAIN, 't', 1 + 8 + 64, 's');
            x.write(CORDS, 8);
        });
        row("join: no band alike", UNSUPPORTED, strange, x -> x.join(FRAGMENT, CORDS));
        row("join: too high", UNSUPPORTED, with(REALM, x -> {
            x.hang(SECOND_MAIN, 't', 0, 's');
            x.hang(CORDS, 't', 0, 's');
            x.hang(CORDS + 1, 't', 0, 's');
            x.write(CORDS + 2, 8);
        }), x -> x.join(FRAGMENT, CORDS + 2));
    }

    private static void shares() {
        row("numberShare: no cords", ARITHMETIC, NEW, x -> x.numberShare());
        row("meanValue: no cords", ARITHMETIC, NEW, x -> x.meanValue());
        row("meanValue: no numbers", ARITHMETIC, with(NEW, x -> {
            x.main();
            x.tie(0, 0, 's', 1);
        }), x -> x.meanValue());
    }
}
