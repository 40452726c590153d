import java.util.ArrayList;
import java.util.NoSuchElementException;

/**
 * A realm counted on cords: trees of knotted cords, readers of names, relays, provinces and
 * storehouses. The document of the project tells what each call promises.
 */
public final class Quipuhall {
    private static final int MOST_CORDS = 60;
    private static final int MOST_MAINS = 6;
    private static final int MOST_GROUPS = 4;
    private static final int MOST_IN_GROUP = 9;
    private static final int MOST_STEPS = 4;
    private static final int MOST_COLOURS = 511;
    private static final int PLACES = 7;
    private static final int MOST_NUMBER = 9999999;
    private static final int MOST_READERS = 6;
    private static final int MOST_WORD = 99;
    // An object is used for at most 512 calls, and each call of learn tells one name.
    private static final int MOST_NAMES = 512;
    private static final int MOST_RELAYS = 6;
    private static final int MOST_PROVINCES = 4;
    private static final int MOST_HOUSES = 3;
    private static final int MOST_ROOMS = 6;
    private static final int ROOM_PIECES = 500;
    private static final int GOODS = 4;
    private static final int MOST_RATE = 20;

    // The numbers of the sorts of knots are those that the code of a cord uses.
    private static final int NO_KNOT = 0;
    private static final int SIMPLE = 1;
    private static final int LONG = 2;
    private static final int EIGHT = 3;
    private static final int STRANGE = 4;

    // No sum or difference of cords comes near it, so it can stand for one that is not known.
    private static final long UNKNOWN = -1000000000000L;
    private static final int ANY_GROUP = -1;

    private final ArrayList<Cord> cords = new ArrayList<>();
    private final ArrayList<Reader> readers = new ArrayList<>();
    private final ArrayList<Relay> relays = new ArrayList<>();
    private final ArrayList<Province> provinces = new ArrayList<>();
    private final ArrayList<Storehouse> houses = new ArrayList<>();
    private final int[] rates = new int[GOODS];
    // These four are filled anew by each call that needs them, so that no call makes rows.
    private final ArrayList<Cord> order = new ArrayList<>();
    private final ArrayList<Cord> otherOrder = new ArrayList<>();
    private final Slips slips = new Slips();
    private final Rows rows = new Rows();
    private int mains;

    /** Creates a hall without cords, readers, relays, provinces and storehouses. */
    public Quipuhall() {
        for (int good = 0; good < rates.length; good++) {
            rates[good] = 1;
        }
    }

    // Cords

    public int main() throws IllegalStateException {
        if (mains >= MOST_MAINS || cords.size() >= MOST_CORDS) {
            throw new IllegalStateException("no more main cords");
        }
        Cord cord = new Cord(cords.size(), true, ' ', 0, 's');
        cords.add(cord);
        mains++;
        return cord.number;
    }

    public int group(int cord)
            throws IndexOutOfBoundsException, UnsupportedOperationException, IllegalStateException {
        Cord owner = cordOf(cord);
        if (owner.last.cords.isEmpty()) {
            throw new UnsupportedOperationException("the last group is empty");
        }
        if (owner.groups.size() >= MOST_GROUPS) {
            throw new IllegalStateException("no more groups");
        }
        owner.beginGroup();
        return owner.groups.size();
    }

    public int hang(int cord, char sort, int colours, char role)
            throws IndexOutOfBoundsException, IllegalArgumentException,
            UnsupportedOperationException, IllegalStateException {
        Cord owner = cordOf(cord);
        if (!isSort(sort) || !isRole(role) || colours < 0 || colours > MOST_COLOURS) {
            throw new IllegalArgumentException("no such sort, role or colours");
        }
        if (!owner.last.takes(sort) || owner.steps() >= MOST_STEPS) {
            throw new UnsupportedOperationException("it can't hang there");
        }
        if (cords.size() >= MOST_CORDS) {
            throw new IllegalStateException("no more cords");
        }
        Cord added = new Cord(cords.size(), false, sort, colours, role);
        added.attach(owner, owner.last);
        cords.add(added);
        return added.number;
    }

    public int on(int cord) throws IndexOutOfBoundsException {
        return numberOf(cordOf(cord).on);
    }

    public int size(int cord) throws IndexOutOfBoundsException, UnsupportedOperationException {
        return orderOf(treeOf(cord)).size();
    }

    public int cordAt(int cord, int index)
            throws IndexOutOfBoundsException, UnsupportedOperationException,
            NoSuchElementException {
        ArrayList<Cord> tree = orderOf(treeOf(cord));
        if (index < 0 || index >= tree.size()) {
            throw new NoSuchElementException("no such index");
        }
        return tree.get(index).number;
    }

    // Knots

    public int tie(int cord, int place, char sort, int turns)
            throws IndexOutOfBoundsException, IllegalArgumentException {
        Cord tied = cordOf(cord);
        int knot = knotOf(sort);
        if (!isPlace(place) || knot == NO_KNOT || !isTurns(knot, turns)) {
            throw new IllegalArgumentException("no such place, sort or turns");
        }
        int before = tied.turnsAt(place);
        tied.setKnot(place, knot, turns);
        return before;
    }

    public int untie(int cord, int place)
            throws IndexOutOfBoundsException, IllegalArgumentException {
        Cord untied = cordOf(cord);
        if (!isPlace(place)) {
            throw new IllegalArgumentException("no such place");
        }
        int before = untied.turnsAt(place);
        untied.setKnot(place, NO_KNOT, 0);
        return before;
    }

    public int write(int cord, int number)
            throws IndexOutOfBoundsException, IllegalArgumentException {
        Cord written = cordOf(cord);
        if (number < 0 || number > MOST_NUMBER) {
            throw new IllegalArgumentException("out of range");
        }
        int knotted = 0;
        int rest = number;
        for (int place = 0; place < PLACES; place++) {
            int digit = rest % 10;
            written.setDigit(place, digit);
            knotted += digit == 0 ? 0 : 1;
            rest /= 10;
        }
        return knotted;
    }

    public boolean isNumber(int cord) throws IndexOutOfBoundsException {
        return cordOf(cord).reading() >= 0;
    }

    public int value(int cord) throws IndexOutOfBoundsException, UnsupportedOperationException {
        return readingOf(cord);
    }

    public int code(int cord) throws IndexOutOfBoundsException {
        return cordOf(cord).coded();
    }

    // Sums

    public int due(int cord) throws IndexOutOfBoundsException, NoSuchElementException {
        long due = cordOf(cord).dueOrUnknown();
        if (due == UNKNOWN) {
            throw new NoSuchElementException("nothing known is due");
        }
        return (int) due;
    }

    public boolean isQuarrelling(int cord) throws IndexOutOfBoundsException {
        return cordOf(cord).quarrels();
    }

    public int quarrel(int cord) throws IndexOutOfBoundsException, UnsupportedOperationException {
        ArrayList<Cord> tree = orderOf(treeOf(cord));
        for (int i = 0; i < tree.size(); i++) {
            if (tree.get(i).quarrels()) {
                return tree.get(i).number;
            }
        }
        return -1;
    }

    public long counted(int cord) throws IndexOutOfBoundsException, UnsupportedOperationException {
        ArrayList<Cord> tree = orderOf(treeOf(cord));
        long sum = 0;
        for (int i = 0; i < tree.size(); i++) {
            Cord count = tree.get(i);
            if (count.role == 'c') {
                sum += Math.max(0, count.reading());
            }
        }
        return sum;
    }

    // Likely slips

    public int likely(int cord) throws IndexOutOfBoundsException, UnsupportedOperationException {
        slips.find(orderOf(treeOf(cord)));
        return slips.count;
    }

    public int likelyAt(int cord, int index, char what)
            throws IndexOutOfBoundsException, IllegalArgumentException,
            UnsupportedOperationException, NoSuchElementException {
        Cord root = cordOf(cord);
        if (what != 'c' && what != 'p' && what != 'd') {
            throw new IllegalArgumentException("no such thing");
        }
        requireTree(root);
        slips.find(orderOf(root));
        if (index < 0 || index >= slips.count) {
            throw new NoSuchElementException("no such change");
        }
        return slips.tell(index, what);
    }

    // Names

    public short name(int cord) throws IndexOutOfBoundsException, UnsupportedOperationException {
        return namedOf(cordOf(cord)).named();
    }

    public int reader() throws IllegalStateException {
        if (readers.size() >= MOST_READERS) {
            throw new IllegalStateException("no more readers");
        }
        readers.add(new Reader());
        return readers.size() - 1;
    }

    public int learn(int reader, int cord, int word)
            throws IndexOutOfBoundsException, IllegalArgumentException,
            UnsupportedOperationException {
        Reader learner = readerOf(reader);
        Cord learned = cordOf(cord);
        if (word < 0 || word > MOST_WORD) {
            throw new IllegalArgumentException("out of range");
        }
        short name = namedOf(learned).named();
        if (!learner.keep(name, word)) {
            throw new UnsupportedOperationException("the name is known");
        }
        return learner.count;
    }

    public int teach(int reader, int other)
            throws IndexOutOfBoundsException, IllegalArgumentException {
        Reader teacher = readerOf(reader);
        Reader learner = readerOf(other);
        if (reader == other) {
            throw new IllegalArgumentException("both are the same");
        }
        return learner.keepAll(teacher);
    }

    public int word(int reader, int cord)
            throws IndexOutOfBoundsException, UnsupportedOperationException,
            NoSuchElementException {
        Reader asked = readerOf(reader);
        int word = asked.recall(namedOf(cordOf(cord)).named());
        if (word < 0) {
            throw new NoSuchElementException("the name is not known");
        }
        return word;
    }

    // Relays

    public int relay(int step, int place, int shift)
            throws IllegalArgumentException, IllegalStateException {
        if (step < 0 || step > 9 || !isPlace(place) || shift < 1 || shift > 9) {
            throw new IllegalArgumentException("out of range");
        }
        if (relays.size() >= MOST_RELAYS) {
            throw new IllegalStateException("no more relays");
        }
        relays.add(new Relay(step, place, shift));
        return relays.size() - 1;
    }

    public int carry(int cord, int from, int to)
            throws IndexOutOfBoundsException, IllegalArgumentException,
            UnsupportedOperationException, IllegalStateException {
        Cord carried = cordOf(cord);
        requireRelay(from);
        requireRelay(to);
        if (to < from) {
            throw new IllegalArgumentException("the last one is lower");
        }
        if (!carried.isMain) {
            throw new UnsupportedOperationException("no main cord");
        }
        ArrayList<Cord> tree = orderOf(carried);
        int start = cords.size();
        if (mains >= MOST_MAINS || start + tree.size() > MOST_CORDS) {
            throw new IllegalStateException("no more cords");
        }
        copyTree(tree, start);
        mains++;
        for (int relay = from; relay <= to && relay < relays.size(); relay++) {
            relays.get(relay).handle(cords, start);
        }
        return start;
    }

    public int unlike(int cord, int other)
            throws IndexOutOfBoundsException, UnsupportedOperationException {
        Cord root = cordOf(cord);
        Cord otherRoot = cordOf(other);
        requireTree(root);
        requireTree(otherRoot);
        ArrayList<Cord> tree = orderOf(root);
        otherOrder.clear();
        collect(otherRoot, 0, otherOrder);
        if (tree.size() != otherOrder.size()) {
            throw new UnsupportedOperationException("unlike numbers of cords");
        }
        int unlike = 0;
        for (int i = 0; i < tree.size() && i < otherOrder.size(); i++) {
            unlike += tree.get(i).coded() == otherOrder.get(i).coded() ? 0 : 1;
        }
        return unlike;
    }

    // Provinces

    public int province(int cord)
            throws IndexOutOfBoundsException, UnsupportedOperationException, IllegalStateException {
        int households = readingOf(cord);
        if (provinces.size() >= MOST_PROVINCES) {
            throw new IllegalStateException("no more provinces");
        }
        provinces.add(new Province(households));
        return provinces.size() - 1;
    }

    public int rate(int good, int days) throws IllegalArgumentException {
        if (good < 0 || good >= rates.length || days < 1 || days > MOST_RATE) {
            throw new IllegalArgumentException("out of range");
        }
        int before = rates[good];
        rates[good] = days;
        return before;
    }

    public long labour(int province, int days)
            throws IndexOutOfBoundsException, IllegalArgumentException {
        Province owing = provinceOf(province);
        if (days < 1 || days > 99) {
            throw new IllegalArgumentException("out of range");
        }
        owing.tellDays(days);
        return owing.owed;
    }

    public long pay(int province, int good, int pieces)
            throws IndexOutOfBoundsException, IllegalArgumentException,
            UnsupportedOperationException {
        Province owing = provinceOf(province);
        if (good < 0 || good >= rates.length || pieces < 1 || pieces > 9999) {
            throw new IllegalArgumentException("out of range");
        }
        long days = (long) rates[good] * pieces;
        if (owing.owed < days) {
            throw new UnsupportedOperationException("it owes less");
        }
        owing.takePayment(days);
        return owing.owed;
    }

    public long remit(int province, int hundredths)
            throws IndexOutOfBoundsException, IllegalArgumentException {
        Province owing = provinceOf(province);
        if (hundredths < 0 || hundredths > 100) {
            throw new IllegalArgumentException("out of range");
        }
        return owing.forgive(hundredths);
    }

    public long move(int province, int other, int days)
            throws IndexOutOfBoundsException, IllegalArgumentException,
            UnsupportedOperationException {
        Province giver = provinceOf(province);
        Province taker = provinceOf(other);
        if (province == other || days < 1 || days > 999999) {
            throw new IllegalArgumentException("both are the same, or out of range");
        }
        if (giver.owed < days) {
            throw new UnsupportedOperationException("it owes less");
        }
        giver.shift(-days);
        taker.shift(days);
        return taker.owed;
    }

    public long owes(int province) throws IndexOutOfBoundsException {
        return provinceOf(province).owed;
    }

    // Storehouses

    public int house(int rooms) throws IllegalArgumentException, IllegalStateException {
        if (rooms < 1 || rooms > MOST_ROOMS) {
            throw new IllegalArgumentException("out of range");
        }
        if (houses.size() >= MOST_HOUSES) {
            throw new IllegalStateException("no more storehouses");
        }
        houses.add(new Storehouse(rooms));
        return houses.size() - 1;
    }

    public int put(int house, int good, int pieces)
            throws IndexOutOfBoundsException, IllegalArgumentException,
            UnsupportedOperationException {
        Storehouse store = houseOf(house);
        if (!isGood(good) || pieces < 1 || pieces > 999) {
            throw new IllegalArgumentException("out of range");
        }
        if (store.spaceFor(good) < pieces) {
            throw new UnsupportedOperationException("there is not so much room");
        }
        store.store(good, pieces);
        return store.held(good);
    }

    public int draw(int house, int good, int cord)
            throws IndexOutOfBoundsException, IllegalArgumentException,
            UnsupportedOperationException {
        Storehouse store = houseOf(house);
        Cord ordering = cordOf(cord);
        if (!isGood(good)) {
            throw new IllegalArgumentException("no such good");
        }
        int pieces = ordering.reading();
        if (pieces < 0 || store.held(good) < pieces) {
            throw new UnsupportedOperationException("no number, or not so many pieces");
        }
        store.take(good, pieces);
        return store.held(good);
    }

    public int spoil() {
        int lost = 0;
        for (int house = 0; house < houses.size(); house++) {
            lost += houses.get(house).lose();
        }
        return lost;
    }

    public int pieces(int house, int room, int good)
            throws IndexOutOfBoundsException, IllegalArgumentException {
        Storehouse store = houseOf(house);
        if (room < 0 || room >= store.pieces.length) {
            throw new IndexOutOfBoundsException("no such room");
        }
        if (!isGood(good)) {
            throw new IllegalArgumentException("no such good");
        }
        return store.heldIn(room, good);
    }

    // Fragments

    public int cut(int cord) throws IndexOutOfBoundsException, UnsupportedOperationException {
        Cord fragment = cordOf(cord);
        if (fragment.on == null) {
            throw new UnsupportedOperationException("a main cord or a fragment");
        }
        fragment.detach();
        return orderOf(fragment).size();
    }

    public boolean fits(int cord, int other)
            throws IndexOutOfBoundsException, UnsupportedOperationException {
        Cord fragment = cordOf(cord);
        Cord owner = cordOf(other);
        requireFragment(fragment);
        return isFitting(fragment, heightOf(fragment), owner);
    }

    public int matches(int cord) throws IndexOutOfBoundsException, UnsupportedOperationException {
        Cord fragment = cordOf(cord);
        requireFragment(fragment);
        int height = heightOf(fragment);
        int fitting = 0;
        for (int i = 0; i < cords.size(); i++) {
            fitting += isFitting(fragment, height, cords.get(i)) ? 1 : 0;
        }
        return fitting;
    }

    public int join(int cord, int other)
            throws IndexOutOfBoundsException, UnsupportedOperationException {
        Cord fragment = cordOf(cord);
        Cord owner = cordOf(other);
        requireFragment(fragment);
        if (!isFitting(fragment, heightOf(fragment), owner)) {
            throw new UnsupportedOperationException("it does not fit");
        }
        fragment.attach(owner, owner.last);
        return owner.last.cords.size();
    }

    // The whole hall

    public long checksum() {
        long sum = 7;
        for (int i = 0; i < cords.size(); i++) {
            sum = 31 * sum + cords.get(i).coded();
            sum = 31 * sum + numberOf(cords.get(i).on);
        }
        return sum;
    }

    public float numberShare() throws ArithmeticException {
        if (cords.isEmpty()) {
            throw new ArithmeticException("no cords");
        }
        return (float) countNumbers() / (float) cords.size();
    }

    public double meanValue() throws ArithmeticException {
        int numbers = countNumbers();
        if (numbers == 0) {
            throw new ArithmeticException("no numbers");
        }
        long sum = 0;
        for (int i = 0; i < cords.size(); i++) {
            sum += Math.max(0, cords.get(i).reading());
        }
        return (double) sum / (double) numbers;
    }

    public boolean isSound() {
        return duesAgree() && debtsAgree() && storesAgree() && sortsAgree();
    }

    // What a call names

    private Cord cordOf(int cord) {
        if (cord < 0 || cord >= cords.size()) {
            throw new IndexOutOfBoundsException("no such cord");
        }
        return cords.get(cord);
    }

    private int readingOf(int cord) {
        int reading = cordOf(cord).reading();
        if (reading < 0) {
            throw new UnsupportedOperationException("no number");
        }
        return reading;
    }

    private Cord treeOf(int cord) {
        Cord root = cordOf(cord);
        requireTree(root);
        return root;
    }

    private Reader readerOf(int reader) {
        if (reader < 0 || reader >= readers.size()) {
            throw new IndexOutOfBoundsException("no such reader");
        }
        return readers.get(reader);
    }

    private Province provinceOf(int province) {
        if (province < 0 || province >= provinces.size()) {
            throw new IndexOutOfBoundsException("no such province");
        }
        return provinces.get(province);
    }

    private Storehouse houseOf(int house) {
        if (house < 0 || house >= houses.size()) {
            throw new IndexOutOfBoundsException("no such storehouse");
        }
        return houses.get(house);
    }

    private void requireRelay(int relay) {
        if (relay < 0 || relay >= relays.size()) {
            throw new IndexOutOfBoundsException("no such relay");
        }
    }

    private static Cord namedOf(Cord cord) {
        if (cord.reading() >= 0) {
            throw new UnsupportedOperationException("a number");
        }
        return cord;
    }

    private static void requireTree(Cord cord) {
        if (cord.on != null) {
            throw new UnsupportedOperationException("neither a main cord nor a fragment");
        }
    }

    private static void requireFragment(Cord cord) {
        if (cord.on != null || cord.isMain) {
            throw new UnsupportedOperationException("no fragment");
        }
    }

    private static int numberOf(Cord cord) {
        return cord == null ? -1 : cord.number;
    }

    // What the document allows

    private static boolean isSort(char sort) {
        return sort == 'h' || sort == 't';
    }

    private static boolean isRole(char role) {
        return role == 'c' || role == 's' || role == 'g' || role == 'd';
    }

    private static boolean isPlace(int place) {
        return place >= 0 && place < PLACES;
    }

    private static boolean isGood(int good) {
        return good >= 0 && good < GOODS;
    }

    private static int knotOf(char sort) {
        if (sort == 's') {
            return SIMPLE;
        }
        if (sort == 'l') {
            return LONG;
        }
        if (sort == 'e') {
            return EIGHT;
        }
        return sort == 'n' ? STRANGE : NO_KNOT;
    }

    private static boolean isTurns(int knot, int turns) {
        int least = knot == LONG ? 2 : 1;
        int most = knot == EIGHT ? 1 : 9;
        return turns >= least && turns <= most;
    }

    // Trees

    private ArrayList<Cord> orderOf(Cord root) {
        order.clear();
        collect(root, 0, order);
        return order;
    }

    private static void collect(Cord cord, int steps, ArrayList<Cord> into) {
        into.add(cord);
        if (steps >= MOST_STEPS) {
            return;
        }
        for (int g = 0; g < cord.groups.size(); g++) {
            ArrayList<Cord> members = cord.groups.get(g).cords;
            for (int i = 0; i < members.size(); i++) {
                collect(members.get(i), steps + 1, into);
            }
        }
    }

    private void copyTree(ArrayList<Cord> tree, int start) {
        for (int i = 0; i < tree.size(); i++) {
            Cord source = tree.get(i);
            Cord copy = source.copied(cords.size());
            cords.add(copy);
            Cord owner = copyOf(source.on, tree, start);
            if (owner != null && source.home != null
                    && source.home.index < owner.groups.size()) {
                copy.attach(owner, owner.groups.get(source.home.index));
            }
        }
    }

    /** The copy of a cord of the tree whose copies are numbered from the start, null for none. */
    private Cord copyOf(Cord source, ArrayList<Cord> tree, int start) {
        for (int i = 0; i < tree.size() && start + i < cords.size(); i++) {
            if (tree.get(i) == source) {
                return cords.get(start + i);
            }
        }
        return null;
    }

    private int heightOf(Cord root) {
        ArrayList<Cord> tree = orderOf(root);
        int height = 0;
        for (int i = 0; i < tree.size(); i++) {
            height = Math.max(height, tree.get(i).steps());
        }
        return height;
    }

    private static boolean isFitting(Cord fragment, int height, Cord owner) {
        return owner.role == 's'
                && owner.last.takes(fragment.sort)
                && owner.root() != fragment
                && owner.steps() + 1 + height <= MOST_STEPS
                && hasLikeBand(fragment.colours, owner.colours)
                && owner.agreesWith(fragment);
    }

    private static boolean hasLikeBand(int colours, int other) {
        for (int low = 0; low < 9; low += 3) {
            if (((colours >> low) & 7) == ((other >> low) & 7)) {
                return true;
            }
        }
        return false;
    }

    private int countNumbers() {
        int numbers = 0;
        for (int i = 0; i < cords.size(); i++) {
            numbers += cords.get(i).reading() >= 0 ? 1 : 0;
        }
        return numbers;
    }

    // Soundness

    private boolean duesAgree() {
        rows.count = 0;
        for (int i = 0; i < cords.size(); i++) {
            if (cords.get(i).on == null) {
                rows.lay(orderOf(cords.get(i)));
            }
        }
        if (rows.count != cords.size()) {
            return false;
        }
        for (int i = 0; i < cords.size(); i++) {
            if (cords.get(i).dueOrUnknown() != rows.dueOf(cords.get(i))) {
                return false;
            }
        }
        return true;
    }

    private boolean debtsAgree() {
        long moved = 0;
        for (int i = 0; i < provinces.size(); i++) {
            Province province = provinces.get(i);
            if (!province.isBalanced()) {
                return false;
            }
            moved += province.moved;
        }
        return moved == 0;
    }

    private boolean storesAgree() {
        for (int i = 0; i < houses.size(); i++) {
            if (!houses.get(i).isBalanced()) {
                return false;
            }
        }
        return true;
    }

    private boolean sortsAgree() {
        for (int i = 0; i < cords.size(); i++) {
            ArrayList<Group> groups = cords.get(i).groups;
            for (int g = 0; g < groups.size(); g++) {
                if (!groups.get(g).isOfOneSort()) {
                    return false;
                }
            }
        }
        return true;
    }

    /** A group of cords on a cord. */
    private static final class Group {
        private final int index;
        private final Group ahead;
        private final ArrayList<Cord> cords = new ArrayList<>();

        Group(int index, Group ahead) {
            this.index = index;
            this.ahead = ahead;
        }

        boolean takes(char sort) {
            return cords.isEmpty()
                    || cords.size() < MOST_IN_GROUP && cords.get(0).sort == sort;
        }

        boolean isOfOneSort() {
            for (int i = 1; i < cords.size(); i++) {
                if (cords.get(i).sort != cords.get(0).sort) {
                    return false;
                }
            }
            return true;
        }

        /** The sum of its cords, 0 for none, unknown if one is no number. */
        long sum() {
            long sum = 0;
            for (int i = 0; i < cords.size(); i++) {
                int reading = cords.get(i).reading();
                if (reading < 0) {
                    return UNKNOWN;
                }
                sum += reading;
            }
            return sum;
        }

        void drop(Cord cord) {
            for (int i = 0; i < cords.size(); i++) {
                if (cords.get(i) == cord) {
                    cords.remove(i);
                    return;
                }
            }
        }
    }

    /** A cord with its knots and what is on it. */
    private static final class Cord {
        private final int number;
        private final boolean isMain;
        private final char sort;
        private final int colours;
        private final char role;
        private final int[] knots = new int[PLACES];
        private final int[] turns = new int[PLACES];
        private final ArrayList<Group> groups = new ArrayList<>();
        private Group last;
        // Both are null for a main cord or fragment, and neither is for another cord.
        private Cord on;
        private Group home;

        Cord(int number, boolean isMain, char sort, int colours, char role) {
            this.number = number;
            this.isMain = isMain;
            this.sort = sort;
            this.colours = colours;
            this.role = role;
            last = new Group(0, null);
            groups.add(last);
        }

        void beginGroup() {
            last = new Group(groups.size(), last);
            groups.add(last);
        }

        void attach(Cord owner, Group group) {
            on = owner;
            home = group;
            group.cords.add(this);
        }

        void detach() {
            if (home != null) {
                home.drop(this);
            }
            on = null;
            home = null;
        }

        /** A copy with its groups and knots, but on no cord and with none on it. */
        Cord copied(int copyNumber) {
            Cord copy = new Cord(copyNumber, isMain, sort, colours, role);
            for (int place = 0; place < PLACES; place++) {
                copy.knots[place] = knots[place];
                copy.turns[place] = turns[place];
            }
            for (int g = 1; g < groups.size(); g++) {
                copy.beginGroup();
            }
            return copy;
        }

        int steps() {
            int steps = 0;
            for (Cord below = on; below != null && steps < MOST_CORDS; below = below.on) {
                steps++;
            }
            return steps;
        }

        Cord root() {
            Cord root = this;
            for (int i = 0; i < MOST_CORDS && root.on != null; i++) {
                root = root.on;
            }
            return root;
        }

        int turnsAt(int place) {
            return isPlace(place) ? turns[place] : 0;
        }

        void setKnot(int place, int knot, int count) {
            if (isPlace(place)) {
                knots[place] = knot;
                turns[place] = count;
            }
        }

        void setDigit(int place, int digit) {
            int knot = place > 0 ? SIMPLE : digit == 1 ? EIGHT : LONG;
            setKnot(place, digit == 0 ? NO_KNOT : knot, digit);
        }

        /** The value, -1 if it is no number. */
        int reading() {
            int value = 0;
            for (int place = PLACES - 1; place >= 0; place--) {
                int knot = knots[place];
                boolean isDigit = place > 0 ? knot == SIMPLE : knot == LONG || knot == EIGHT;
                if (knot != NO_KNOT && !isDigit) {
                    return -1;
                }
                value = value * 10 + turns[place];
            }
            return value;
        }

        int coded() {
            int code = 0;
            for (int place = PLACES - 1; place >= 0; place--) {
                code = (code << 4) | turns[place];
                code ^= knots[place] << (24 + place);
            }
            return code;
        }

        short named() {
            int code = coded();
            return (short) (code ^ (code >>> 16));
        }

        long dueOrUnknown() {
            if (role == 'g') {
                Group ahead = home == null ? null : home.ahead;
                return ahead == null || ahead.cords.isEmpty() ? UNKNOWN : ahead.sum();
            }
            Cord first = firstOn();
            if (role == 'c' || first == null) {
                return UNKNOWN;
            }
            long sum = sumOn();
            return role == 's' || sum == UNKNOWN ? sum : 2L * first.reading() - sum;
        }

        Cord firstOn() {
            for (int g = 0; g < groups.size(); g++) {
                ArrayList<Cord> members = groups.get(g).cords;
                if (!members.isEmpty()) {
                    return members.get(0);
                }
            }
            return null;
        }

        /** The sum of all cords on it, 0 for none, unknown if one is no number. */
        private long sumOn() {
            long sum = 0;
            for (int g = 0; g < groups.size(); g++) {
                long part = groups.get(g).sum();
                if (part == UNKNOWN) {
                    return UNKNOWN;
                }
                sum += part;
            }
            return sum;
        }

        boolean quarrels() {
            int reading = reading();
            long due = dueOrUnknown();
            return reading >= 0 && due != UNKNOWN && due != reading;
        }

        /** Whether it is a number, and would as a sum not quarrel with the fragment on it. */
        boolean agreesWith(Cord fragment) {
            int reading = reading();
            int added = fragment.reading();
            long sum = sumOn();
            // A sum of what is no number is unknown, and with what is unknown nothing quarrels.
            boolean isUnknown = added < 0 || sum == UNKNOWN;
            return reading >= 0 && (isUnknown || sum + added == reading);
        }

        /** By how much the gap of the judged one grows if this cord tells one more. */
        int weightIn(Cord judged) {
            if (judged == this) {
                return 1;
            }
            if (on == judged && judged.role == 's') {
                return -1;
            }
            if (on == judged && judged.role == 'd') {
                return judged.firstOn() == this ? -1 : 1;
            }
            boolean isAhead = judged.home != null && home != null && judged.home.ahead == home;
            return judged.role == 'g' && isAhead ? -1 : 0;
        }
    }

    /** The likely changes of a tree, found anew by each call that asks for them. */
    private static final class Slips {
        private final int[] numbers = new int[MOST_CORDS];
        private final int[] places = new int[MOST_CORDS];
        private final int[] digits = new int[MOST_CORDS];
        private final boolean[] judged = new boolean[MOST_CORDS];
        private final long[] gaps = new long[MOST_CORDS];
        private int count;

        /**
         * Another digit changes each gap by the same difference times a weight, and the first gap
         * must close, so each cord has one difference to try, and not all digits of all places.
         */
        void find(ArrayList<Cord> tree) {
            count = 0;
            int first = judge(tree);
            if (first < 0 || first >= tree.size()) {
                return;
            }
            for (int i = 0; i < tree.size(); i++) {
                Cord cord = tree.get(i);
                int weight = cord.weightIn(tree.get(first));
                if (weight != 0 && cord.reading() >= 0) {
                    long difference = -weight * gaps[first];
                    if (closesAll(tree, cord, difference)) {
                        note(cord, difference);
                    }
                }
            }
        }

        /** Fills the rows, and tells the index of the first quarrel, -1 for none. */
        private int judge(ArrayList<Cord> tree) {
            int first = -1;
            for (int i = 0; i < tree.size() && i < gaps.length; i++) {
                int reading = tree.get(i).reading();
                long due = tree.get(i).dueOrUnknown();
                judged[i] = reading >= 0 && due != UNKNOWN;
                gaps[i] = judged[i] ? reading - due : 0;
                if (first < 0 && gaps[i] != 0) {
                    first = i;
                }
            }
            return first;
        }

        private boolean closesAll(ArrayList<Cord> tree, Cord cord, long difference) {
            for (int i = 0; i < tree.size() && i < gaps.length; i++) {
                if (judged[i] && gaps[i] + cord.weightIn(tree.get(i)) * difference != 0) {
                    return false;
                }
            }
            return true;
        }

        private void note(Cord cord, long difference) {
            long ten = 1;
            for (int place = 0; place < PLACES; place++) {
                for (int digit = 0; digit <= 9; digit++) {
                    long made = (digit - cord.turnsAt(place)) * ten;
                    if (made == difference && count < numbers.length) {
                        numbers[count] = cord.number;
                        places[count] = place;
                        digits[count] = digit;
                        count++;
                    }
                }
                ten *= 10;
            }
        }

        int tell(int index, char what) {
            if (index < 0 || index >= numbers.length) {
                return -1;
            }
            return what == 'c' ? numbers[index] : what == 'p' ? places[index] : digits[index];
        }
    }

    /** All cords as plain rows of numbers, in the order of their trees. */
    private static final class Rows {
        private final int[] owners = new int[MOST_CORDS];
        private final int[] groups = new int[MOST_CORDS];
        private final int[] values = new int[MOST_CORDS];
        private int count;

        void lay(ArrayList<Cord> tree) {
            for (int i = 0; i < tree.size() && count < values.length; i++) {
                Cord cord = tree.get(i);
                owners[count] = numberOf(cord.on);
                groups[count] = cord.home == null ? ANY_GROUP : cord.home.index;
                values[count] = cord.reading();
                count++;
            }
        }

        long dueOf(Cord cord) {
            if (cord.role == 's') {
                return sum(cord.number, ANY_GROUP, 1);
            }
            if (cord.role == 'd') {
                return sum(cord.number, ANY_GROUP, -1);
            }
            if (cord.role != 'g' || cord.home == null || cord.home.index == 0) {
                return UNKNOWN;
            }
            return sum(numberOf(cord.on), cord.home.index - 1, 1);
        }

        /** The first value of the owner's and the group's, then the sign times each other one. */
        private long sum(int owner, int group, int sign) {
            long sum = UNKNOWN;
            for (int i = 0; i < count && i < values.length; i++) {
                if (owners[i] == owner && (group == ANY_GROUP || groups[i] == group)) {
                    if (values[i] < 0) {
                        return UNKNOWN;
                    }
                    sum = sum == UNKNOWN ? values[i] : sum + (long) sign * values[i];
                }
            }
            return sum;
        }
    }

    /** A reader with the words that it knows for names. */
    private static final class Reader {
        private final short[] names = new short[MOST_NAMES];
        private final int[] words = new int[MOST_NAMES];
        private int count;

        /** The word for a name, -1 for none. */
        int recall(short name) {
            for (int i = 0; i < count && i < names.length; i++) {
                if (names[i] == name) {
                    return words[i];
                }
            }
            return -1;
        }

        /** Keeps a word for a name that is not known, and tells whether it did. */
        boolean keep(short name, int word) {
            if (count >= names.length || recall(name) >= 0) {
                return false;
            }
            names[count] = name;
            words[count] = word;
            count++;
            return true;
        }

        int keepAll(Reader teacher) {
            int kept = 0;
            for (int i = 0; i < teacher.count && i < teacher.names.length; i++) {
                kept += keep(teacher.names[i], teacher.words[i]) ? 1 : 0;
            }
            return kept;
        }
    }

    /** A relay, which counts the cords that it handled over all trees that it carried. */
    private static final class Relay {
        private final int step;
        private final int place;
        private final int shift;
        private int handled;

        Relay(int step, int place, int shift) {
            this.step = step;
            this.place = place;
            this.shift = shift;
        }

        void handle(ArrayList<Cord> cords, int start) {
            for (int i = Math.max(0, start); i < cords.size(); i++) {
                handled++;
                Cord cord = cords.get(i);
                if (step > 0 && handled % step == 0 && cord.reading() >= 0) {
                    cord.setDigit(place, (cord.turnsAt(place) + shift) % 10);
                }
            }
        }
    }

    /** A province with what it owes, and by what that came. */
    private static final class Province {
        private final int households;
        private long owed;
        private long told;
        private long paid;
        private long remitted;
        private long moved;

        Province(int households) {
            this.households = households;
        }

        void tellDays(int days) {
            long more = (long) households * days;
            owed += more;
            told += more;
        }

        void takePayment(long days) {
            owed -= days;
            paid += days;
        }

        long forgive(int hundredths) {
            long days = owed * hundredths / 100;
            owed -= days;
            remitted += days;
            return days;
        }

        void shift(int days) {
            owed += days;
            moved += days;
        }

        boolean isBalanced() {
            return owed == told - paid - remitted + moved;
        }
    }

    /** A storehouse with its rooms, and by what each good came and went. */
    private static final class Storehouse {
        private final int[] goods;
        private final int[] pieces;
        private final long[] stored = new long[GOODS];
        private final long[] drawn = new long[GOODS];
        private final long[] spoiled = new long[GOODS];

        // A constructor throws nothing, so a number that no caller gives is bent to a right one.
        Storehouse(int rooms) {
            int length = Math.min(Math.max(rooms, 1), MOST_ROOMS);
            goods = new int[length];
            pieces = new int[length];
        }

        int heldIn(int room, int good) {
            if (room < 0 || room >= pieces.length || goods[room] != good) {
                return 0;
            }
            return pieces[room];
        }

        int held(int good) {
            int sum = 0;
            for (int room = 0; room < pieces.length; room++) {
                sum += heldIn(room, good);
            }
            return sum;
        }

        int spaceFor(int good) {
            int space = 0;
            for (int room = 0; room < pieces.length; room++) {
                if (pieces[room] == 0 || goods[room] == good) {
                    space += ROOM_PIECES - pieces[room];
                }
            }
            return space;
        }

        void store(int good, int count) {
            int left = count;
            for (int room = 0; room < pieces.length; room++) {
                if (heldIn(room, good) > 0) {
                    left -= fill(room, good, left);
                }
            }
            for (int room = 0; room < pieces.length && left > 0; room++) {
                if (pieces[room] == 0) {
                    left -= fill(room, good, left);
                }
            }
            if (isGood(good)) {
                stored[good] += count - left;
            }
        }

        /** Puts as much of the count into the room as it takes, and tells how much. */
        private int fill(int room, int good, int count) {
            if (room < 0 || room >= pieces.length) {
                return 0;
            }
            int more = Math.min(count, ROOM_PIECES - pieces[room]);
            goods[room] = good;
            pieces[room] += more;
            return more;
        }

        void take(int good, int count) {
            int left = count;
            for (int room = 0; room < pieces.length; room++) {
                int less = Math.min(left, heldIn(room, good));
                pieces[room] -= less;
                left -= less;
            }
            if (isGood(good)) {
                drawn[good] += count - left;
            }
        }

        /** Lets a month spoil the rooms, and tells how many pieces are lost. */
        int lose() {
            int lost = 0;
            for (int room = 0; room < pieces.length; room++) {
                int part = partLost(goods[room]);
                if (part > 0 && isGood(goods[room])) {
                    int less = pieces[room] / part;
                    pieces[room] -= less;
                    spoiled[goods[room]] += less;
                    lost += less;
                }
            }
            return lost;
        }

        /** The part of a room's pieces that a month takes, one in so many, 0 for none. */
        private static int partLost(int good) {
            switch (good) {
                case 0:
                    return 10;
                case 1:
                    return 20;
                case 2:
                    return 50;
                default:
                    return 0;
            }
        }

        boolean isBalanced() {
            for (int good = 0; good < GOODS; good++) {
                if (held(good) != stored[good] - drawn[good] - spoiled[good]) {
                    return false;
                }
            }
            return true;
        }
    }
}
