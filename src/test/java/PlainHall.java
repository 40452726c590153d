import java.util.ArrayList;
import java.util.HashMap;
import java.util.List;
import java.util.Map;
import java.util.NoSuchElementException;
import java.util.TreeMap;

/**
 * The document told a second time, as plainly as can be and in another way than the class: cords
 * have no lists of what is on them, and likely changes are found by trying each digit.
 */
final class PlainHall {
    static final class Cord {
        int on = -1;
        int group = -1;
        int joined;
        boolean main;
        char sort;
        char role;
        int colours;
        int groups = 1;
        char[] sorts = "-------".toCharArray();
        int[] turns = new int[7];
    }

    static final class Province {
        long households;
        long owes;
    }

    static final class Relay {
        int step;
        int place;
        int shift;
        int handled;
    }

    static final class Room {
        int good = -1;
        int pieces;
    }

    final List<Cord> cords = new ArrayList<>();
    final List<Map<Short, Integer>> readers = new ArrayList<>();
    final List<Relay> relays = new ArrayList<>();
    final List<Province> provinces = new ArrayList<>();
    final List<List<Room>> houses = new ArrayList<>();
    final int[] rates = {1, 1, 1, 1};
    int mains;
    int joins;

    private static void check(boolean isRight, RuntimeException thrown) {
        if (!isRight) {
            throw thrown;
        }
    }

    private static void in(int index, List<?> list) {
        check(index >= 0 && index < list.size(), new IndexOutOfBoundsException());
    }

    private static void range(int number, int from, int to) {
        check(number >= from && number <= to, new IllegalArgumentException());
    }

    private static void able(boolean isAble) {
        check(isAble, new UnsupportedOperationException());
    }

    private static void state(boolean isRight) {
        check(isRight, new IllegalStateException());
    }

    private boolean isTree(int cord) {
        return cords.get(cord).on < 0;
    }

    private boolean isFragment(int cord) {
        return isTree(cord) && !cords.get(cord).main;
    }

    /** The cords on one, in a group or, below 0, in all. */
    List<Integer> onIt(int cord, int group) {
        TreeMap<Long, Integer> found = new TreeMap<>();
        for (int i = 0; i < cords.size(); i++) {
            Cord one = cords.get(i);
            if (one.on == cord && (group < 0 || one.group == group)) {
                found.put(one.group * 1000000L + one.joined, i);
            }
        }
        return new ArrayList<>(found.values());
    }

    List<Integer> order(int cord) {
        List<Integer> all = new ArrayList<>();
        all.add(cord);
        for (int above : onIt(cord, -1)) {
            all.addAll(order(above));
        }
        return all;
    }

    private List<Integer> lastGroup(int cord) {
        return onIt(cord, cords.get(cord).groups - 1);
    }

    private int steps(int cord) {
        return isTree(cord) ? 0 : 1 + steps(cords.get(cord).on);
    }

    private int height(int cord) {
        int height = 0;
        for (int above : onIt(cord, -1)) {
            height = Math.max(height, 1 + height(above));
        }
        return height;
    }

    boolean tells(int cord) {
        char[] sorts = cords.get(cord).sorts;
        int digits = "-le".indexOf(sorts[0]) >= 0 ? 1 : 0;
        for (int place = 1; place < 7; place++) {
            digits += "-s".indexOf(sorts[place]) >= 0 ? 1 : 0;
        }
        return digits == 7;
    }

    int told(int cord) {
        int value = 0;
        for (int place = 0, ten = 1; place < 7; place++, ten *= 10) {
            value += cords.get(cord).turns[place] * ten;
        }
        return value;
    }

    private void digit(int cord, int place, int digit) {
        Cord one = cords.get(cord);
        one.turns[place] = digit;
        String sorts = place == 0 ? "-elllllllll" : "-sssssssss";
        one.sorts[place] = sorts.charAt(digit);
    }

    /** Those of which a cord is the sum or difference. */
    private List<Integer> parts(int cord) {
        Cord one = cords.get(cord);
        if (one.role == 'g') {
            return one.on < 0 || one.group == 0 ? List.of() : onIt(one.on, one.group - 1);
        }
        return one.role == 'c' ? List.of() : onIt(cord, -1);
    }

    /** What is due, null if it is not known. */
    private Integer dueOf(int cord, List<Integer> parts) {
        if (parts.isEmpty()) {
            return null;
        }
        int due = 0;
        for (int i = 0; i < parts.size(); i++) {
            if (!tells(parts.get(i))) {
                return null;
            }
            boolean isLess = cords.get(cord).role == 'd' && i > 0;
            due += isLess ? -told(parts.get(i)) : told(parts.get(i));
        }
        return due;
    }

    private boolean quarrels(int cord, List<Integer> parts) {
        Integer due = dueOf(cord, parts);
        return tells(cord) && due != null && due != told(cord);
    }

    int main() {
        state(mains < 6 && cords.size() < 60);
        mains++;
        Cord one = new Cord();
        one.main = true;
        one.role = 's';
        cords.add(one);
        return cords.size() - 1;
    }

    int group(int cord) {
        in(cord, cords);
        able(!lastGroup(cord).isEmpty());
        state(cords.get(cord).groups < 4);
        return ++cords.get(cord).groups;
    }

    int hang(int cord, char sort, int colours, char role) {
        in(cord, cords);
        check("ht".indexOf(sort) >= 0 && "csgd".indexOf(role) >= 0,
                new IllegalArgumentException());
        range(colours, 0, 511);
        List<Integer> group = lastGroup(cord);
        able(group.size() < 9 && steps(cord) < 4);
        able(group.isEmpty() || cords.get(group.get(0)).sort == sort);
        state(cords.size() < 60);
        Cord one = new Cord();
        one.on = cord;
        one.group = cords.get(cord).groups - 1;
        one.joined = joins++;
        one.sort = sort;
        one.role = role;
        one.colours = colours;
        cords.add(one);
        return cords.size() - 1;
    }

    int tie(int cord, int place, char sort, int turns) {
        in(cord, cords);
        range(place, 0, 6);
        range("slen".indexOf(sort), 0, 3);
        range(turns, sort == 'l' ? 2 : 1, sort == 'e' ? 1 : 9);
        int before = cords.get(cord).turns[place];
        cords.get(cord).turns[place] = turns;
        cords.get(cord).sorts[place] = sort;
        return before;
    }

    int untie(int cord, int place) {
        in(cord, cords);
        range(place, 0, 6);
        int before = cords.get(cord).turns[place];
        digit(cord, place, 0);
        return before;
    }

    int write(int cord, int number) {
        in(cord, cords);
        range(number, 0, 9999999);
        String digits = String.format("%07d", number);
        int some = 0;
        for (int place = 0; place < 7; place++) {
            int digit = digits.charAt(6 - place) - '0';
            digit(cord, place, digit);
            some += digit > 0 ? 1 : 0;
        }
        return some;
    }

    boolean isNumber(int cord) {
        in(cord, cords);
        return tells(cord);
    }

    int value(int cord) {
        in(cord, cords);
        able(tells(cord));
        return told(cord);
    }

    int due(int cord) {
        in(cord, cords);
        Integer due = dueOf(cord, parts(cord));
        check(due != null, new NoSuchElementException());
        return due;
    }

    boolean isQuarrelling(int cord) {
        in(cord, cords);
        return quarrels(cord, parts(cord));
    }

    int quarrel(int cord) {
        in(cord, cords);
        able(isTree(cord));
        for (int one : order(cord)) {
            if (quarrels(one, parts(one))) {
                return one;
            }
        }
        return -1;
    }

    int size(int cord) {
        in(cord, cords);
        able(isTree(cord));
        return order(cord).size();
    }

    int cordAt(int cord, int index) {
        in(cord, cords);
        able(isTree(cord));
        List<Integer> order = order(cord);
        check(index >= 0 && index < order.size(), new NoSuchElementException());
        return order.get(index);
    }

    int on(int cord) {
        in(cord, cords);
        return cords.get(cord).on;
    }

    long counted(int cord) {
        in(cord, cords);
        able(isTree(cord));
        long sum = 0;
        for (int one : order(cord)) {
            sum += cords.get(one).role == 'c' && tells(one) ? told(one) : 0;
        }
        return sum;
    }

    private List<int[]> changes(int root) {
        List<int[]> found = new ArrayList<>();
        if (quarrel(root) < 0) {
            return found;
        }
        List<Integer> order = order(root);
        List<List<Integer>> parts = new ArrayList<>();
        for (int one : order) {
            parts.add(parts(one));
        }
        for (int one : order) {
            for (int place = 0; tells(one) && place < 7; place++) {
                int before = cords.get(one).turns[place];
                for (int digit = 0; digit < 10; digit++) {
                    digit(one, place, digit);
                    boolean isClear = digit != before;
                    for (int i = 0; isClear && i < order.size(); i++) {
                        isClear = !quarrels(order.get(i), parts.get(i));
                    }
                    if (isClear) {
                        found.add(new int[] {one, place, digit});
                    }
                }
                digit(one, place, before);
            }
        }
        return found;
    }

    int likely(int cord) {
        in(cord, cords);
        able(isTree(cord));
        return changes(cord).size();
    }

    int likelyAt(int cord, int index, char what) {
        in(cord, cords);
        int field = "cpd".indexOf(what);
        range(field, 0, 2);
        able(isTree(cord));
        List<int[]> found = changes(cord);
        check(index >= 0 && index < found.size(), new NoSuchElementException());
        return found.get(index)[field];
    }

    int code(int cord) {
        in(cord, cords);
        int code = 0;
        for (int place = 6; place >= 0; place--) {
            code <<= 4;
            code |= cords.get(cord).turns[place];
            int sort = "-slen".indexOf(cords.get(cord).sorts[place]);
            code ^= sort << (24 + place);
        }
        return code;
    }

    short name(int cord) {
        in(cord, cords);
        able(!tells(cord));
        int code = code(cord);
        return (short) ((code ^ (code >>> 16)) & 0xffff);
    }

    int reader() {
        state(readers.size() < 6);
        readers.add(new HashMap<>());
        return readers.size() - 1;
    }

    int learn(int reader, int cord, int word) {
        in(reader, readers);
        in(cord, cords);
        range(word, 0, 99);
        able(readers.get(reader).putIfAbsent(name(cord), word) == null);
        return readers.get(reader).size();
    }

    int teach(int reader, int other) {
        in(reader, readers);
        in(other, readers);
        check(reader != other, new IllegalArgumentException());
        int before = readers.get(other).size();
        readers.get(reader).forEach((name, word) -> readers.get(other).putIfAbsent(name, word));
        return readers.get(other).size() - before;
    }

    int word(int reader, int cord) {
        in(reader, readers);
        in(cord, cords);
        Integer word = readers.get(reader).get(name(cord));
        check(word != null, new NoSuchElementException());
        return word;
    }

    int relay(int step, int place, int shift) {
        range(step, 0, 9);
        range(place, 0, 6);
        range(shift, 1, 9);
        state(relays.size() < 6);
        Relay relay = new Relay();
        relay.step = step;
        relay.place = place;
        relay.shift = shift;
        relays.add(relay);
        return relays.size() - 1;
    }

    int carry(int cord, int from, int to) {
        in(cord, cords);
        in(from, relays);
        in(to, relays);
        check(to >= from, new IllegalArgumentException());
        able(cords.get(cord).main);
        List<Integer> order = order(cord);
        state(mains < 6 && cords.size() + order.size() <= 60);
        mains++;
        int start = cords.size();
        for (int one : order) {
            Cord source = cords.get(one);
            Cord copy = new Cord();
            copy.on = source.on < 0 ? -1 : start + order.indexOf(source.on);
            copy.group = source.group;
            copy.joined = joins++;
            copy.main = source.main;
            copy.sort = source.sort;
            copy.role = source.role;
            copy.colours = source.colours;
            copy.groups = source.groups;
            copy.sorts = source.sorts.clone();
            copy.turns = source.turns.clone();
            cords.add(copy);
        }
        for (Relay relay : relays.subList(from, to + 1)) {
            for (int one = start; one < cords.size(); one++) {
                relay.handled++;
                if (relay.step > 0 && relay.handled % relay.step == 0 && tells(one)) {
                    int digit = cords.get(one).turns[relay.place];
                    digit(one, relay.place, (digit + relay.shift) % 10);
                }
            }
        }
        return start;
    }

    int unlike(int cord, int other) {
        in(cord, cords);
        in(other, cords);
        able(isTree(cord) && isTree(other));
        List<Integer> order = order(cord);
        List<Integer> otherOrder = order(other);
        able(order.size() == otherOrder.size());
        int unlike = 0;
        for (int i = 0; i < order.size(); i++) {
            unlike += code(order.get(i)) != code(otherOrder.get(i)) ? 1 : 0;
        }
        return unlike;
    }

    int province(int cord) {
        in(cord, cords);
        able(tells(cord));
        state(provinces.size() < 4);
        Province province = new Province();
        province.households = told(cord);
        provinces.add(province);
        return provinces.size() - 1;
    }

    int rate(int good, int days) {
        range(good, 0, 3);
        range(days, 1, 20);
        int before = rates[good];
        rates[good] = days;
        return before;
    }

    long labour(int province, int days) {
        in(province, provinces);
        range(days, 1, 99);
        return provinces.get(province).owes += days * provinces.get(province).households;
    }

    long pay(int province, int good, int pieces) {
        in(province, provinces);
        range(good, 0, 3);
        range(pieces, 1, 9999);
        long days = (long) rates[good] * pieces;
        able(provinces.get(province).owes >= days);
        return provinces.get(province).owes -= days;
    }

    long remit(int province, int hundredths) {
        in(province, provinces);
        range(hundredths, 0, 100);
        long days = provinces.get(province).owes * hundredths / 100;
        provinces.get(province).owes -= days;
        return days;
    }

    long move(int province, int other, int days) {
        in(province, provinces);
        in(other, provinces);
        check(province != other, new IllegalArgumentException());
        range(days, 1, 999999);
        able(provinces.get(province).owes >= days);
        provinces.get(province).owes -= days;
        return provinces.get(other).owes += days;
    }

    long owes(int province) {
        in(province, provinces);
        return provinces.get(province).owes;
    }

    int house(int rooms) {
        range(rooms, 1, 6);
        state(houses.size() < 3);
        List<Room> house = new ArrayList<>();
        for (int i = 0; i < rooms; i++) {
            house.add(new Room());
        }
        houses.add(house);
        return houses.size() - 1;
    }

    private int held(int house, int good) {
        return houses.get(house).stream().filter(room -> room.good == good)
                .mapToInt(room -> room.pieces).sum();
    }

    /** One piece after the other, each into the first room that takes it. */
    int put(int house, int good, int pieces) {
        in(house, houses);
        range(good, 0, 3);
        range(pieces, 1, 999);
        List<Room> rooms = houses.get(house);
        int space = 0;
        for (Room room : rooms) {
            space += room.good == good ? 500 - room.pieces : room.good < 0 ? 500 : 0;
        }
        able(space >= pieces);
        for (int i = 0; i < pieces; i++) {
            Room place = null;
            for (Room room : rooms) {
                boolean isOpen = room.good == good && room.pieces < 500;
                place = place == null && isOpen ? room : place;
            }
            for (Room room : rooms) {
                place = place == null && room.good < 0 ? room : place;
            }
            place.good = good;
            place.pieces++;
        }
        return held(house, good);
    }

    int draw(int house, int good, int cord) {
        in(house, houses);
        in(cord, cords);
        range(good, 0, 3);
        able(tells(cord) && held(house, good) >= told(cord));
        for (int i = told(cord); i > 0; i--) {
            Room first = houses.get(house).stream().filter(room -> room.good == good)
                    .findFirst().orElseThrow();
            first.pieces--;
            first.good = first.pieces == 0 ? -1 : first.good;
        }
        return held(house, good);
    }

    int spoil() {
        int lost = 0;
        for (List<Room> house : houses) {
            for (Room room : house) {
                int left = switch (room.good) {
                    case 0 -> room.pieces - room.pieces / 10;
                    case 1 -> room.pieces - room.pieces / 20;
                    case 2 -> room.pieces - room.pieces / 50;
                    default -> room.pieces;
                };
                lost += room.pieces - left;
                room.pieces = left;
            }
        }
        return lost;
    }

    int pieces(int house, int room, int good) {
        in(house, houses);
        in(room, houses.get(house));
        range(good, 0, 3);
        Room asked = houses.get(house).get(room);
        return asked.good == good ? asked.pieces : 0;
    }

    int cut(int cord) {
        in(cord, cords);
        able(!isTree(cord));
        cords.get(cord).on = -1;
        cords.get(cord).group = -1;
        return order(cord).size();
    }

    boolean fits(int cord, int other) {
        in(cord, cords);
        in(other, cords);
        able(isFragment(cord));
        Cord fragment = cords.get(cord);
        Cord owner = cords.get(other);
        List<Integer> group = lastGroup(other);
        if (order(cord).contains(other) || owner.role != 's' || group.size() > 8) {
            return false;
        }
        for (int one : group) {
            if (cords.get(one).sort != fragment.sort) {
                return false;
            }
        }
        String bands = String.format("%03o", fragment.colours);
        String others = String.format("%03o", owner.colours);
        boolean isLike = false;
        for (int band = 0; band < 3; band++) {
            isLike |= bands.charAt(band) == others.charAt(band);
        }
        if (!isLike || steps(other) + 1 + height(cord) > 4 || !tells(other)) {
            return false;
        }
        List<Integer> parts = onIt(other, -1);
        parts.add(cord);
        return !quarrels(other, parts);
    }

    int matches(int cord) {
        in(cord, cords);
        able(isFragment(cord));
        int fitting = 0;
        for (int other = 0; other < cords.size(); other++) {
            fitting += fits(cord, other) ? 1 : 0;
        }
        return fitting;
    }

    int join(int cord, int other) {
        able(fits(cord, other));
        cords.get(cord).on = other;
        cords.get(cord).group = cords.get(other).groups - 1;
        cords.get(cord).joined = joins++;
        return lastGroup(other).size();
    }

    long checksum() {
        long sum = 7;
        for (int cord = 0; cord < cords.size(); cord++) {
            sum = sum * 31 + code(cord);
            sum = sum * 31 + on(cord);
        }
        return sum;
    }

    float numberShare() {
        check(!cords.isEmpty(), new ArithmeticException());
        int numbers = 0;
        for (int cord = 0; cord < cords.size(); cord++) {
            numbers += tells(cord) ? 1 : 0;
        }
        return (float) numbers / (float) cords.size();
    }

    double meanValue() {
        long sum = 0;
        int numbers = 0;
        for (int cord = 0; cord < cords.size(); cord++) {
            sum += tells(cord) ? told(cord) : 0;
            numbers += tells(cord) ? 1 : 0;
        }
        check(numbers > 0, new ArithmeticException());
        return (double) sum / (double) numbers;
    }

    boolean isSound() {
        return true;
    }
}
