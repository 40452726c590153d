import java.util.ArrayList;
import java.util.List;

/**
 * Looks at what stands after a refused call: a hall that was refused a call, and another one that
 * was made alike but never called so, must answer alike. Groups, sorts, relays and what is full
 * show only in calls that change a hall, so each look has new halls of its own.
 */
final class Probe {
    interface Making {
        Quipuhall make();
    }

    interface Call {
        Object of(Quipuhall hall);
    }

    private interface Look {
        void at(Probe probe);
    }

    // With what a making calls, an object stays below its 512 calls.
    private static final int MOST_CALLS = 380;

    private static final Look[] LOOKS = {Probe::cords, Probe::trees, Probe::changes,
        probe -> probe.groups('h', 't'), probe -> probe.groups('t', 'h'), Probe::colours,
        Probe::readers, Probe::relays, Probe::provinces, Probe::houses, Probe::mains};

    private final Quipuhall hall;
    private final List<String> answers = new ArrayList<>();

    private Probe(Quipuhall hall) {
        this.hall = hall;
    }

    static void refused(String what, Class<? extends RuntimeException> due, Making making,
            Call call) {
        for (Look look : LOOKS) {
            Quipuhall refused = making.make();
            Check.refused(what, due, () -> call.of(refused));
            alike(what, seen(refused, look), seen(making.make(), look));
        }
    }

    private static List<String> seen(Quipuhall hall, Look look) {
        Probe probe = new Probe(hall);
        look.at(probe);
        return probe.answers;
    }

    private static void alike(String what, List<String> answers, List<String> due) {
        String first = "";
        for (int i = 0; first.isEmpty() && i < Math.max(answers.size(), due.size()); i++) {
            String answer = i < answers.size() ? answers.get(i) : "nothing";
            String other = i < due.size() ? due.get(i) : "nothing";
            first = answer.equals(other) ? "" : answer + ", without it " + other;
        }
        Check.holds(what + " changes nothing " + first, first.isEmpty());
    }

    /** Whether the call was answered, and not refused. */
    private boolean ask(String what, Call call) {
        if (answers.size() >= MOST_CALLS) {
            return false;
        }
        Object answer = Check.answerOf(() -> call.of(hall));
        answers.add(what + " " + answer);
        return !(answer instanceof Class);
    }

    private int cordCount() {
        int count = 0;
        while (count < 60 && isCord(count)) {
            count++;
        }
        return count;
    }

    private boolean isCord(int cord) {
        return ask("on " + cord, x -> x.on(cord));
    }

    private void cords() {
        int count = cordCount();
        ask("checksum", x -> x.checksum());
        ask("numberShare", x -> x.numberShare());
        ask("meanValue", x -> x.meanValue());
        ask("isSound", x -> x.isSound());
        for (int i = 0; i < count; i++) {
            int cord = i;
            ask("code " + cord, x -> x.code(cord));
            ask("isNumber " + cord, x -> x.isNumber(cord));
            ask("value " + cord, x -> x.value(cord));
            ask("due " + cord, x -> x.due(cord));
            ask("isQuarrelling " + cord, x -> x.isQuarrelling(cord));
        }
    }

    private void trees() {
        int count = cordCount();
        for (int i = 0; i < count; i++) {
            int cord = i;
            if (ask("size " + cord, x -> x.size(cord))) {
                ask("counted " + cord, x -> x.counted(cord));
                ask("quarrel " + cord, x -> x.quarrel(cord));
                ask("unlike " + cord, x -> x.unlike(0, cord));
                boolean isThere = true;
                for (int j = 0; isThere; j++) {
                    int index = j;
                    isThere = ask("cordAt " + cord + " " + j, x -> x.cordAt(cord, index));
                }
            }
        }
    }

    private void changes() {
        int count = cordCount();
        for (int i = 0; i < count; i++) {
            int cord = i;
            boolean isThere = ask("likely " + cord, x -> x.likely(cord));
            for (int j = 0; isThere; j++) {
                int index = j;
                ask("place", x -> x.likelyAt(cord, index, 'p'));
                ask("digit", x -> x.likelyAt(cord, index, 'd'));
                isThere = ask("cord", x -> x.likelyAt(cord, index, 'c'));
            }
        }
    }

    /** A group shows in the sort that it takes, and its number in what is due for a new cord. */
    private void groups(char sort, char other) {
        int count = cordCount();
        for (int i = 0; i < count; i++) {
            int cord = i;
            ask("hang " + cord + sort, x -> x.hang(cord, sort, 0, 'g'));
            ask("hang " + cord + other, x -> x.hang(cord, other, 0, 'g'));
            ask("group " + cord, x -> x.group(cord));
            ask("hang " + cord + other, x -> x.hang(cord, other, 0, 'g'));
        }
        for (int i = 0; i < 60; i++) {
            int cord = i;
            ask("due " + cord, x -> x.due(cord));
        }
    }

    private void colours() {
        int count = cordCount();
        for (int i = count - 1; i >= 0; i--) {
            int cord = i;
            ask("cut " + cord, x -> x.cut(cord));
        }
        for (int i = 0; i < count; i++) {
            int cord = i;
            if (ask("matches " + cord, x -> x.matches(cord))) {
                for (int j = 0; j < count; j++) {
                    int other = j;
                    ask("fits " + cord + " " + other, x -> x.fits(cord, other));
                }
            }
        }
    }

    private void readers() {
        boolean isRoom = true;
        while (isRoom) {
            isRoom = ask("reader", x -> x.reader());
        }
        int count = Math.min(cordCount(), 40);
        for (int i = 0; i < 6; i++) {
            int reader = i;
            for (int j = 0; j < count; j++) {
                int cord = j;
                ask("word " + reader + " " + cord, x -> x.word(reader, cord));
            }
        }
        ask("tie", x -> x.tie(0, 0, 'n', 9));
        for (int i = 0; i < 6; i++) {
            int reader = i;
            ask("learn " + reader, x -> x.learn(reader, 0, 50));
        }
    }

    private void relays() {
        boolean isRoom = true;
        while (isRoom) {
            isRoom = ask("relay", x -> x.relay(1, 0, 1));
        }
        isRoom = true;
        while (isRoom) {
            isRoom = ask("carry", x -> x.carry(0, 0, 5));
            ask("checksum", x -> x.checksum());
        }
    }

    private void provinces() {
        for (int i = 0; i < 4; i++) {
            int number = i;
            ask("owes " + number, x -> x.owes(number));
            ask("labour " + number, x -> x.labour(number, 1));
            ask("remit " + number, x -> x.remit(number, 1));
            ask("rate " + number, x -> x.rate(number, 20));
        }
        boolean isRoom = true;
        while (isRoom) {
            ask("write", x -> x.write(0, 9));
            isRoom = ask("province", x -> x.province(0));
        }
    }

    private void houses() {
        boolean isRoom = true;
        while (isRoom) {
            isRoom = ask("house", x -> x.house(6));
        }
        pieces();
        ask("spoil", x -> x.spoil());
        for (int i = 0; i < 12; i++) {
            int house = i / 4;
            int good = i % 4;
            ask("put " + house + " " + good, x -> x.put(house, good, 400));
        }
        pieces();
        ask("isSound", x -> x.isSound());
    }

    private void pieces() {
        for (int i = 0; i < 3 * 6 * 4; i++) {
            int house = i / 24;
            int room = i / 4 % 6;
            int good = i % 4;
            ask("pieces " + house + " " + room + " " + good, x -> x.pieces(house, room, good));
        }
    }

    private void mains() {
        boolean isRoom = true;
        while (isRoom) {
            isRoom = ask("main", x -> x.main());
        }
        ask("checksum", x -> x.checksum());
    }
}
