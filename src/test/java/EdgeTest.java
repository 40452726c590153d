import java.math.BigInteger;
import java.util.NoSuchElementException;

/**
 * The ranges that the document's 'Terms' name, gone through from end to end: each digit at each
 * place, each colour, each step, each count of rooms, and trees as large as they can be.
 */
final class EdgeTest {
    private static final int[] TENS = {1, 10, 100, 1000, 10000, 100000, 1000000};

    public static void main(String[] args) {
        sixtyCordsOnOneMain();
        mainsAndCopies();
        fourGroupsOfNine();
        groupsOfFragmentsAndCopies();
        sortOfEachGroup();
        charsThatAreNoSort();
        knotsAtEachPlace();
        numberBySorts();
        digits();
        codes();
        likelyDigits();
        likelyOnAll();
        names();
        relaySteps();
        relayShifts();
        coloursOfCopies();
        relaysByRisingNumbers();
        remissions();
        payments();
        rooms();
        spoiling();
        spoilingAllRooms();
        draws();
        colours();
        heights();
        sumsThatFit();
        matchesOfMany();
        checksumOfSixty();
        Check.end();
    }

    private static Quipuhall withMains(int mains) {
        Quipuhall x = new Quipuhall();
        for (int i = 0; i < mains; i++) {
            x.main();
        }
        return x;
    }

    /** Hangs so many cords on one, nine to a group. */
    private static void fill(Quipuhall x, int cord, int cords, char role) {
        for (int i = 0; i < cords; i++) {
            if (i > 0 && i % 9 == 0) {
                x.group(cord);
            }
            x.hang(cord, 'h', 0, role);
        }
    }

    // 'At most 60 cords are numbered from 0.'
    private static void sixtyCordsOnOneMain() {
        Quipuhall x = withMains(1);
        fill(x, 0, 36, 'c');
        fill(x, 36, 23, 'c');
        Check.same("size", () -> x.size(0), 60);
        for (int i = 0; i < 60; i++) {
            int index = i;
            Check.same("cordAt", () -> x.cordAt(0, index), index);
        }
        Check.refused("cordAt 60", NoSuchElementException.class, () -> x.cordAt(0, 60));
        Check.refused("hang", IllegalStateException.class, () -> x.hang(1, 'h', 0, 'c'));
        Check.refused("main", IllegalStateException.class, () -> x.main());
        x.write(59, 9999999);
        Check.same("the last one counts", () -> x.counted(0), 9999999);
        Check.same("the last one quarrels not", () -> x.quarrel(0), -1);
        Check.same("cut", () -> x.cut(36), 24);
        Check.same("size", () -> x.size(0), 36);
        Check.refused("fragments are among the 60", IllegalStateException.class,
                () -> x.hang(1, 'h', 0, 'c'));
        Check.same("sound", () -> x.isSound(), true);
    }

    // 'At most 6 of them are ever made, fragments not counted.'
    private static void mainsAndCopies() {
        for (int mains = 1; mains <= 6; mains++) {
            Quipuhall x = withMains(mains);
            x.relay(0, 0, 1);
            x.hang(0, 'h', 0, 'c');
            x.cut(mains);
            for (int made = mains; made < 6; made++) {
                int copy = made + 1;
                Check.same("carry", () -> x.carry(0, 0, 0), copy);
            }
            Check.refused("carry", IllegalStateException.class, () -> x.carry(0, 0, 0));
            Check.refused("main", IllegalStateException.class, () -> x.main());
            Check.same("cords are still hung", () -> x.hang(0, 'h', 0, 'c'), 7);
        }
    }

    // 'A cord has at most 4 groups, one of them as it is made, and at most 9 cords in a group.'
    private static void fourGroupsOfNine() {
        for (int steps = 0; steps < 4; steps++) {
            Quipuhall x = withMains(1);
            for (int i = 0; i < steps; i++) {
                x.hang(i, 'h', 0, 'c');
            }
            int cord = steps;
            for (int group = 1; group <= 4; group++) {
                for (int i = 1; i <= 9; i++) {
                    int number = steps + (group - 1) * 9 + i;
                    Check.same("hang", () -> x.hang(cord, 't', 0, 'c'), number);
                }
                Check.refused("ten in a group", UnsupportedOperationException.class,
                        () -> x.hang(cord, 't', 0, 'c'));
                int groups = group + 1;
                if (group < 4) {
                    Check.same("group", () -> x.group(cord), groups);
                } else {
                    Check.refused("group 5", IllegalStateException.class, () -> x.group(cord));
                }
            }
            Check.same("size", () -> x.size(0), steps + 37);
        }
    }

    private static void groupsOfFragmentsAndCopies() {
        Quipuhall x = withMains(1);
        x.hang(0, 'h', 0, 's');
        fill(x, 1, 19, 'c');
        x.cut(1);
        Check.same("a fragment keeps its groups", () -> x.group(1), 4);
        x.hang(1, 't', 0, 'c');
        Check.refused("group 5", IllegalStateException.class, () -> x.group(1));
        Quipuhall y = withMains(1);
        fill(y, 0, 19, 'c');
        y.relay(0, 0, 1);
        y.carry(0, 0, 0);
        Check.same("a copy has the groups", () -> y.group(20), 4);
        Check.same("what was carried keeps its own", () -> y.group(0), 4);
        y.hang(20, 't', 0, 'c');
        Check.refused("group 5", IllegalStateException.class, () -> y.group(20));
    }

    // 'Cords of a group are all of one sort, 'h' hanging or 't' on top.'
    private static void sortOfEachGroup() {
        for (int sorts = 0; sorts < 16; sorts++) {
            Quipuhall x = withMains(1);
            for (int group = 0; group < 4; group++) {
                char sort = (sorts >> group & 1) == 0 ? 'h' : 't';
                char other = sort == 'h' ? 't' : 'h';
                int number = 2 * group + 1;
                Check.same("the first tells the sort", () -> x.hang(0, sort, 0, 'c'), number);
                Check.refused("the other sort", UnsupportedOperationException.class,
                        () -> x.hang(0, other, 0, 'c'));
                Check.same("the same sort", () -> x.hang(0, sort, 0, 'c'), number + 1);
                if (group < 3) {
                    x.group(0);
                }
            }
        }
    }

    private static void charsThatAreNoSort() {
        for (int i = 0; i < 256; i++) {
            char sign = (char) i;
            Quipuhall x = withMains(1);
            x.tie(0, 0, 'n', 1);
            x.hang(0, 'h', 0, 'c');
            Check.same("a sort of cord " + i, () -> allows(() -> x.hang(1, sign, 0, 'c')),
                    "ht".indexOf(sign) >= 0);
            Check.same("a role " + i, () -> allows(() -> x.hang(0, 'h', 0, sign)),
                    "csgd".indexOf(sign) >= 0);
            Check.same("a sort of knot " + i, () -> allows(() -> x.tie(0, 3, sign, 1))
                    || allows(() -> x.tie(0, 3, sign, 2)), "slen".indexOf(sign) >= 0);
            Quipuhall y = withMains(1);
            y.hang(0, 'h', 0, 'c');
            y.write(1, 1);
            Check.same("a thing " + i, () -> allows(() -> y.likelyAt(0, 0, sign)),
                    "cpd".indexOf(sign) >= 0);
        }
    }

    /** Whether the call is answered; it may only refuse its arguments. */
    private static boolean allows(Check.Call call) {
        Object answer = Check.answerOf(call);
        Check.holds("only IllegalArgumentException", !(answer instanceof Class)
                || answer == IllegalArgumentException.class);
        return !(answer instanceof Class);
    }

    // ''s' simple ones, 1 to 9, 'l' a long one of 2 to 9 turns, 'e' an eight, 1, or 'n' ... 1 to 9'
    private static void knotsAtEachPlace() {
        for (char sort : new char[] {'s', 'l', 'e', 'n'}) {
            int least = sort == 'l' ? 2 : 1;
            int most = sort == 'e' ? 1 : 9;
            for (int i = -1; i <= 7; i++) {
                int place = i;
                Quipuhall x = withMains(1);
                int before = 0;
                for (int j = -1; j <= 11; j++) {
                    int turns = j;
                    boolean isRight = place >= 0 && place <= 6 && j >= least && j <= most;
                    int there = before;
                    if (isRight) {
                        Check.same("tie", () -> x.tie(0, place, sort, turns), there);
                        before = turns;
                    } else {
                        Check.refused("tie " + place + sort + turns,
                                IllegalArgumentException.class,
                                () -> x.tie(0, place, sort, turns));
                    }
                }
                if (place >= 0 && place <= 6) {
                    Check.same("untie", () -> x.untie(0, place), most);
                    Check.same("nothing is left", () -> x.code(0), 0);
                }
            }
        }
    }

    // 'A cord is a number if no knot is strange, the place 0 has no simple one, and no other ...'
    private static void numberBySorts() {
        char[] sorts = {'s', 'l', 'e', 'n'};
        for (int pair = 0; pair < 49; pair++) {
            int low = pair / 7;
            int high = pair % 7;
            for (int i = 0; low < high && i < 16; i++) {
                char lower = sorts[i / 4];
                char higher = sorts[i % 4];
                int lowTurns = lower == 'l' ? 2 : 1;
                int highTurns = higher == 'l' ? 2 : 1;
                Quipuhall x = withMains(1);
                x.tie(0, low, lower, lowTurns);
                x.tie(0, high, higher, highTurns);
                boolean isLow = low == 0 ? lower == 'l' || lower == 'e' : lower == 's';
                boolean isNumber = isLow && higher == 's';
                Check.same("isNumber", () -> x.isNumber(0), isNumber);
                if (isNumber) {
                    Check.same("value", () -> x.value(0),
                            lowTurns * TENS[low] + highTurns * TENS[high]);
                    Check.refused("name", UnsupportedOperationException.class, () -> x.name(0));
                } else {
                    Check.refused("value", UnsupportedOperationException.class,
                            () -> x.value(0));
                    int code = x.code(0);
                    Check.same("name", () -> x.name(0), (short) (code ^ code >>> 16));
                }
            }
        }
    }

    private static void digits() {
        Quipuhall x = withMains(1);
        for (int place = 0; place < 7; place++) {
            for (int digit = 0; digit < 10; digit++) {
                int number = digit * TENS[place];
                Check.same("write", () -> x.write(0, number), number == 0 ? 0 : 1);
                Check.same("value", () -> x.value(0), number);
            }
            int nines = 10 * TENS[place] - 1;
            int places = place + 1;
            Check.same("write nines", () -> x.write(0, nines), places);
            Check.same("value of nines", () -> x.value(0), nines);
        }
    }

    // The code shifts out what is above its 32 bits.
    private static void codes() {
        for (int place = 0; place < 7; place++) {
            for (int sort = 1; sort <= 4; sort++) {
                for (int turns = sort == 2 ? 2 : 1; turns <= (sort == 3 ? 1 : 9); turns++) {
                    Quipuhall x = withMains(1);
                    x.tie(0, place, "slen".charAt(sort - 1), turns);
                    BigInteger code = BigInteger.valueOf(turns)
                            .xor(BigInteger.valueOf(sort).shiftLeft(24 + place))
                            .shiftLeft(4 * place);
                    Check.same("code", () -> x.code(0), code.intValue());
                    Check.same("it is the checksum's", () -> x.checksum(),
                            31L * (31 * 7 + code.intValue()) - 1);
                }
            }
        }
    }

    // 'A change gives one place of one cord that is a number another digit, 0 to 9'
    private static void likelyDigits() {
        for (int place = 0; place < 7; place++) {
            for (int pair = 0; pair < 100; pair++) {
                int main = pair / 10;
                int count = pair % 10;
                int at = place;
                Quipuhall x = withMains(1);
                x.hang(0, 'h', 0, 'c');
                x.write(0, main * TENS[place]);
                x.write(1, count * TENS[place]);
                Check.same("likely", () -> x.likely(0), main == count ? 0 : 2);
                for (int i = 0; main != count && i < 2; i++) {
                    int index = i;
                    Check.same("cord", () -> x.likelyAt(0, index, 'c'), index);
                    Check.same("place", () -> x.likelyAt(0, index, 'p'), at);
                    Check.same("digit", () -> x.likelyAt(0, index, 'd'),
                            index == 0 ? count : main);
                }
                Check.refused("none behind", NoSuchElementException.class,
                        () -> x.likelyAt(0, main == count ? 0 : 2, 'c'));
            }
        }
    }

    private static void likelyOnAll() {
        Quipuhall x = withMains(1);
        fill(x, 0, 36, 'c');
        x.write(0, 500);
        Check.same("each cord may be wrong", () -> x.likely(0), 37);
        for (int i = 0; i < 37; i++) {
            int index = i;
            Check.same("cord", () -> x.likelyAt(0, index, 'c'), index);
            Check.same("digit", () -> x.likelyAt(0, index, 'd'), index == 0 ? 0 : 5);
        }
        Check.refused("none behind", NoSuchElementException.class,
                () -> x.likelyAt(0, 37, 'c'));
        for (int cord = 1; cord <= 36; cord++) {
            x.write(cord, 9999999);
        }
        Check.same("no digit brings so much", () -> x.likely(0), 0);
        Check.same("it changes nothing", () -> x.value(0), 500);
    }

    // 'At most 6 readers are numbered from 0; each knows words, 0 to 99, for names'
    private static void names() {
        Quipuhall x = withMains(1);
        for (int i = 0; i < 6; i++) {
            x.reader();
        }
        for (int turns = 1; turns <= 9; turns++) {
            x.tie(0, 6, 'n', 1);
            x.tie(0, 0, 'n', turns);
            for (int i = 0; i < 6; i++) {
                int reader = i;
                int count = turns;
                int word = reader == 0 ? 0 : reader == 1 ? 99 : 10 * reader + turns;
                Check.refused("not known", NoSuchElementException.class,
                        () -> x.word(reader, 0));
                Check.same("learn", () -> x.learn(reader, 0, word), count);
                Check.same("word", () -> x.word(reader, 0), word);
            }
        }
        Check.same("all are known", () -> x.teach(0, 5), 0);
    }

    // 'each time the count of cords that the relay handled so far is a multiple of the step'
    private static void relaySteps() {
        for (int step = 0; step <= 9; step++) {
            Quipuhall x = withMains(1);
            fill(x, 0, 9, 'c');
            x.relay(step, 4, 7);
            for (int carried = 0; carried < 5; carried++) {
                int start = 10 * (carried + 1);
                Check.same("carry", () -> x.carry(0, 0, 0), start);
                for (int i = 0; i < 10; i++) {
                    int cord = start + i;
                    boolean isShifted = step > 0 && (10 * carried + i + 1) % step == 0;
                    Check.same("step " + step, () -> x.value(cord), isShifted ? 70000 : 0);
                }
            }
        }
    }

    // 'gets at the relay's place the digit there more by the shift, modulo 10'
    private static void relayShifts() {
        for (int place = 0; place < 7; place++) {
            for (int shift = 1; shift <= 9; shift++) {
                for (int digit = 0; digit < 10; digit++) {
                    int all = 8765432 - 8765432 / TENS[place] % 10 * TENS[place];
                    Quipuhall x = withMains(2);
                    x.write(0, all + digit * TENS[place]);
                    x.write(1, all + (digit + shift) % 10 * TENS[place]);
                    x.relay(1, place, shift);
                    Check.same("carry", () -> x.carry(0, 0, 0), 2);
                    Check.same("the shift", () -> x.value(2), x.value(1));
                    Check.same("as it is written", () -> x.unlike(1, 2), 0);
                }
            }
        }
    }

    // A copy of a cord has its colours, too: they tell where it fits, and what fits it.
    private static void coloursOfCopies() {
        for (int band = 0; band < 9; band += 3) {
            int colours = 0111 + (1 << band);
            Quipuhall x = withMains(1);
            x.hang(0, 'h', colours, 's');
            x.relay(0, 0, 1);
            x.carry(0, 0, 0);
            for (int like = 0; like < 9; like += 3) {
                int other = x.hang(0, 'h', 0333, 'c');
                x.cut(other);
                Check.same("no band alike", () -> x.fits(other, 3), false);
                int alike = x.hang(0, 'h', 0333 - (1 << like), 'c');
                x.cut(alike);
                boolean isLike = like == band;
                Check.same("a band alike", () -> x.fits(alike, 3), isLike);
            }
            x.cut(3);
            Check.same("not white", () -> x.fits(3, 0), false);
            Check.same("as what was carried", () -> x.fits(3, 1), true);
        }
    }

    // 'A tree is carried from a relay to another one, or the same, by rising numbers'
    private static void relaysByRisingNumbers() {
        for (int from = 0; from < 6; from++) {
            for (int to = 0; to < 6; to++) {
                int first = from;
                int last = to;
                Quipuhall x = withMains(1);
                int due = 0;
                for (int i = 0; i < 6; i++) {
                    x.relay(1, i, i + 1);
                    due += i >= from && i <= to ? (i + 1) * TENS[i] : 0;
                }
                int value = due;
                if (from <= to) {
                    Check.same("carry", () -> x.carry(0, first, last), 1);
                    Check.same("by each relay", () -> x.value(1), value);
                } else {
                    Check.refused("carry", IllegalArgumentException.class,
                            () -> x.carry(0, first, last));
                }
            }
        }
    }

    // 'A remission takes hundredths of what it owes, cut.'
    private static void remissions() {
        for (int owed = 0; owed <= 201; owed += owed < 4 ? 1 : 33) {
            for (int part = 0; part <= 100; part++) {
                int hundredths = part;
                int days = owed * part / 100;
                int left = owed - days;
                Quipuhall x = withMains(1);
                x.write(0, owed);
                x.province(0);
                x.labour(0, 1);
                Check.same("remit", () -> x.remit(0, hundredths), days);
                Check.same("owes", () -> x.owes(0), left);
            }
        }
    }

    // 'It pays in pieces of a good, each worth the days of its rate.'
    private static void payments() {
        for (int days = 1; days <= 20; days++) {
            for (int i = 0; i < 4; i++) {
                int good = i;
                int rate = days;
                Quipuhall x = withMains(1);
                x.write(0, 9999 * days);
                x.province(0);
                x.labour(0, 2);
                Check.same("rate", () -> x.rate(good, rate), 1);
                Check.same("the most pieces", () -> x.pay(0, good, 9999), 9999L * rate);
                Check.same("one piece", () -> x.pay(0, good, 1), 9998L * rate);
                Check.refused("one too many", UnsupportedOperationException.class,
                        () -> x.pay(0, good, 9999));
                Check.same("all", () -> x.pay(0, good, 9998), 0);
                Check.same("rate", () -> x.rate(good, 1), rate);
            }
        }
    }

    // 'each with rooms, 1 to 6. A room is empty, or has up to 500 pieces of one good.'
    private static void rooms() {
        for (int rooms = 1; rooms <= 6; rooms++) {
            int count = rooms;
            Quipuhall x = new Quipuhall();
            Check.same("house", () -> x.house(count), 0);
            for (int i = 1; i < 5 * rooms; i++) {
                int all = 100 * i;
                Check.same("put", () -> x.put(0, 2, 100), all);
            }
            Check.refused("one too many", UnsupportedOperationException.class,
                    () -> x.put(0, 2, 101));
            Check.refused("no room is empty", UnsupportedOperationException.class,
                    () -> x.put(0, 1, 1));
            Check.same("the last ones", () -> x.put(0, 2, 100), 500 * rooms);
            for (int i = 0; i < rooms; i++) {
                int room = i;
                Check.same("a full room", () -> x.pieces(0, room, 2), 500);
            }
            Check.refused("room behind", IndexOutOfBoundsException.class,
                    () -> x.pieces(0, count, 2));
            Check.refused("full", UnsupportedOperationException.class, () -> x.put(0, 2, 1));
        }
    }

    // 'good 0 loses a tenth, good 1 a twentieth, good 2 a fiftieth, cut, good 3 nothing'
    private static void spoiling() {
        int[] parts = {10, 20, 50, 1000};
        for (int pieces = 1; pieces <= 500; pieces++) {
            Quipuhall x = new Quipuhall();
            x.house(4);
            int lost = 0;
            for (int good = 0; good < 4; good++) {
                x.put(0, good, pieces);
                lost += pieces / parts[good];
            }
            int due = lost;
            Check.same("spoil", () -> x.spoil(), due);
            for (int i = 0; i < 4; i++) {
                int good = i;
                int left = pieces - pieces / parts[good];
                Check.same("left", () -> x.pieces(0, good, good), left);
            }
        }
    }

    private static void spoilingAllRooms() {
        int[] lost = {3 * 6 * 50, 3 * 6 * 25, 3 * 6 * 10, 0};
        for (int i = 0; i < 4; i++) {
            int good = i;
            Quipuhall x = new Quipuhall();
            for (int house = 0; house < 3; house++) {
                x.house(6);
                for (int put = 0; put < 6; put++) {
                    x.put(house, good, 500);
                }
            }
            Check.same("all rooms are full", () -> x.spoil(), lost[good]);
            Check.same("the last room", () -> x.pieces(2, 5, good), 500 - lost[good] / 18);
            Check.same("sound", () -> x.isSound(), true);
        }
    }

    // 'so many pieces as its value of a good are drawn, from rooms by numbers; all or none'
    private static void draws() {
        for (int order = 0; order <= 1301; order += order % 500 == 1 ? 299 : 1) {
            int pieces = order;
            Quipuhall x = withMains(1);
            x.house(5);
            x.put(0, 1, 500);
            x.put(0, 0, 1);
            x.put(0, 1, 800);
            x.write(0, order);
            if (order > 1300) {
                Check.refused("draw", UnsupportedOperationException.class,
                        () -> x.draw(0, 1, 0));
            } else {
                Check.same("draw", () -> x.draw(0, 1, 0), 1300 - pieces);
            }
            int left = order > 1300 ? 1300 : 1300 - order;
            int third = Math.min(Math.max(left - 300, 0), 500);
            Check.same("first room", () -> x.pieces(0, 0, 1), Math.max(left - 800, 0));
            Check.same("third room", () -> x.pieces(0, 2, 1), third);
            Check.same("fourth room", () -> x.pieces(0, 3, 1), Math.min(left, 300));
            Check.same("another good", () -> x.pieces(0, 1, 0), 1);
            boolean isEmpty = left <= 800;
            Check.same("an emptied room", () -> x.put(0, 3, 500), 500);
            Check.same("an emptied room", () -> x.pieces(0, 0, 3), isEmpty ? 500 : 0);
        }
    }

    // 'three bands of colours, 0 to 7 each, told as one number, the first one by the lowest 3 bits'
    private static void colours() {
        int[] owners = {0, 511, 0123, 0707, 0070, 0654};
        for (int owner : owners) {
            for (int colours = 0; colours < 512; colours++) {
                Quipuhall x = withMains(1);
                x.hang(0, 'h', owner, 's');
                x.hang(0, 'h', colours, 'c');
                x.cut(2);
                boolean isLike = owner % 8 == colours % 8
                        || owner / 8 % 8 == colours / 8 % 8 || owner / 64 == colours / 64;
                Check.same("fits " + owner + " " + colours, () -> x.fits(2, 1), isLike);
            }
        }
    }

    // 'no cord would be too high'
    private static void heights() {
        for (int height = 0; height <= 4; height++) {
            Quipuhall x = withMains(2);
            x.hang(1, 'h', 0, 'c');
            x.cut(2);
            for (int i = 0; i < height; i++) {
                x.hang(2 + i, 'h', 0, 'c');
            }
            int start = 3 + height;
            x.hang(0, 'h', 0, 's');
            for (int i = 0; i < 3; i++) {
                x.hang(start + i, 'h', 0, 's');
            }
            for (int i = 0; i <= 4; i++) {
                int steps = i;
                int cord = i == 0 ? 0 : start + i - 1;
                boolean isLow = steps + 1 + height <= 4;
                Check.same("fits " + height + " on " + steps, () -> x.fits(2, cord), isLow);
            }
            if (height < 4) {
                int owner = height == 3 ? 0 : start + 2 - height;
                int highest = 2 + height;
                Check.same("join as high as can be", () -> x.join(2, owner), 2);
                Check.refused("nothing above it", UnsupportedOperationException.class,
                        () -> x.hang(highest, 'h', 0, 'c'));
            }
        }
    }

    // 'the cord would not quarrel, and is a number, with it at the end of its last group'
    private static void sumsThatFit() {
        for (int main = 0; main <= 12; main++) {
            for (int value = 0; value <= 12; value++) {
                Quipuhall x = withMains(1);
                x.hang(0, 'h', 0, 'c');
                x.hang(0, 'h', 0, 'c');
                x.cut(2);
                x.write(0, main);
                x.write(1, 5);
                x.write(2, value);
                boolean isDue = main == 5 + value;
                Check.same("fits", () -> x.fits(2, 0), isDue);
                Check.same("matches", () -> x.matches(2), isDue ? 1 : 0);
                if (isDue) {
                    Check.same("join", () -> x.join(2, 0), 2);
                    Check.same("it does not quarrel", () -> x.quarrel(0), -1);
                }
            }
        }
    }

    private static void matchesOfMany() {
        Quipuhall x = withMains(2);
        fill(x, 0, 36, 's');
        x.hang(1, 'h', 0, 'g');
        x.cut(38);
        x.write(38, 7);
        Check.same("none tells seven", () -> x.matches(38), 0);
        for (int cord = 2; cord < 38; cord++) {
            x.write(cord, 7);
        }
        Check.same("all sums but the mains", () -> x.matches(38), 36);
        x.write(1, 7);
        Check.same("a main cord too", () -> x.matches(38), 37);
        x.write(0, 36 * 7 + 7);
        Check.same("nine in its last group", () -> x.matches(38), 37);
        x.cut(37);
        x.write(0, 35 * 7 + 7);
        Check.same("eight in its last group, and another fragment", () -> x.matches(38), 38);
        for (int cord = 2; cord < 38; cord++) {
            int on = cord;
            Check.same("each alone", () -> x.fits(38, on), true);
        }
        Check.same("join", () -> x.join(38, 0), 9);
        Check.refused("no fragment now", UnsupportedOperationException.class,
                () -> x.matches(38));
    }

    private static void checksumOfSixty() {
        Quipuhall x = withMains(1);
        fill(x, 0, 36, 'c');
        fill(x, 7, 23, 'c');
        for (int cord = 0; cord < 60; cord++) {
            x.write(cord, 9999999 - 166661 * cord);
        }
        x.cut(7);
        BigInteger sum = BigInteger.valueOf(7);
        BigInteger by = BigInteger.valueOf(31);
        for (int cord = 0; cord < 60; cord++) {
            int on = cord == 0 || cord == 7 ? -1 : cord <= 36 ? 0 : 7;
            sum = sum.multiply(by).add(BigInteger.valueOf(x.code(cord)));
            sum = sum.multiply(by).add(BigInteger.valueOf(on));
        }
        long due = sum.longValue();
        Check.same("it wraps around", () -> x.checksum(), due);
        Check.same("all are numbers", () -> x.numberShare(), 1f);
        Check.same("the mean", () -> x.meanValue(), (60 * 9999999L - 166661L * 1770) / 60.0);
    }
}
