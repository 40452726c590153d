/** Promises 35 to 39: house, put, draw, spoil, pieces. */
final class HouseTest {
    public static void main(String[] args) {
        houses();
        put();
        putOrder();
        putWrong();
        draw();
        drawWrong();
        spoil();
        pieces();
        Check.end();
    }

    private static void rooms(String what, Quipuhall x, int house, int good, int... due) {
        for (int room = 0; room < due.length; room++) {
            int asked = room;
            Check.same(what + " room " + room, () -> x.pieces(house, asked, good), due[room]);
        }
    }

    private static void houses() {
        Quipuhall x = new Quipuhall();
        for (int wrong : new int[] {-1, 0, 7, Integer.MIN_VALUE, Integer.MAX_VALUE}) {
            Check.refused("house", IllegalArgumentException.class, () -> x.house(wrong));
        }
        Check.same("house", () -> x.house(1), 0);
        Check.same("house", () -> x.house(6), 1);
        Check.same("house", () -> x.house(3), 2);
        Check.refused("rooms before the count", IllegalArgumentException.class,
                () -> x.house(7));
        Check.refused("house 4", IllegalStateException.class, () -> x.house(1));
        rooms("empty", x, 1, 0, 0, 0, 0, 0, 0, 0);
    }

    private static void put() {
        Quipuhall x = new Quipuhall();
        x.house(2);
        Check.same("put", () -> x.put(0, 2, 999), 999);
        rooms("two rooms", x, 0, 2, 500, 499);
        Check.refused("no room", UnsupportedOperationException.class, () -> x.put(0, 2, 2));
        rooms("all or none", x, 0, 2, 500, 499);
        Check.refused("no room for another good", UnsupportedOperationException.class,
                () -> x.put(0, 1, 1));
        Check.same("just so much", () -> x.put(0, 2, 1), 1000);
        rooms("full", x, 0, 2, 500, 500);
        Check.refused("full", UnsupportedOperationException.class, () -> x.put(0, 2, 1));
        x.house(1);
        Check.same("another storehouse", () -> x.put(1, 2, 500), 500);
        x.house(1);
        Check.refused("one room", UnsupportedOperationException.class, () -> x.put(2, 0, 501));
        Check.same("none is put", () -> x.put(2, 3, 500), 500);
        rooms("none is put", x, 2, 0, 0);
    }

    private static void putOrder() {
        Quipuhall x = new Quipuhall();
        x.main();
        x.house(5);
        x.put(0, 0, 100);
        x.put(0, 1, 600);
        rooms("one good", x, 0, 0, 100, 0, 0, 0, 0);
        Quipuhall y = new Quipuhall();
        y.house(2);
        y.put(0, 1, 1);
        y.put(0, 1, 5);
        rooms("a room with one piece", y, 0, 1, 6, 0);
        rooms("another good", x, 0, 1, 0, 500, 100, 0, 0);
        Check.same("the good's rooms, then empty ones", () -> x.put(0, 0, 901), 1001);
        rooms("the good's rooms, then empty ones", x, 0, 0, 500, 0, 0, 500, 1);
        x.write(0, 500);
        x.draw(0, 1, 0);
        rooms("an emptied room", x, 0, 1, 0, 0, 100, 0, 0);
        Check.same("the good's rooms ahead of empty ones", () -> x.put(0, 1, 450), 550);
        rooms("the good's rooms ahead of empty ones", x, 0, 1, 0, 50, 500, 0, 0);
        rooms("the other good stays", x, 0, 0, 500, 0, 0, 500, 1);
        x.write(0, 50);
        x.draw(0, 1, 0);
        Check.same("an emptied room takes another good", () -> x.put(0, 3, 500), 500);
        rooms("an emptied room takes another good", x, 0, 3, 0, 500, 0, 0, 0);
        Check.same("sound", () -> x.isSound(), true);
    }

    private static void putWrong() {
        Quipuhall x = new Quipuhall();
        Check.refused("no storehouse", IndexOutOfBoundsException.class, () -> x.put(0, 0, 1));
        x.house(1);
        for (int wrong : new int[] {-1, 1, Integer.MIN_VALUE, Integer.MAX_VALUE}) {
            Check.refused("put", IndexOutOfBoundsException.class, () -> x.put(wrong, 4, 0));
        }
        int[][] wrong = {{-1, 1}, {4, 1}, {0, 0}, {0, -1}, {0, 1000}, {Integer.MIN_VALUE, 1},
            {Integer.MAX_VALUE, 1}, {0, Integer.MIN_VALUE}, {0, Integer.MAX_VALUE}};
        for (int[] numbers : wrong) {
            Check.refused("put", IllegalArgumentException.class,
                    () -> x.put(0, numbers[0], numbers[1]));
        }
        Check.same("what is refused puts none", () -> x.put(0, 0, 1), 1);
    }

    private static void draw() {
        Quipuhall x = new Quipuhall();
        x.main();
        x.house(4);
        x.put(0, 0, 500);
        x.put(0, 1, 30);
        x.put(0, 0, 300);
        x.write(0, 1);
        Check.same("from the first room", () -> x.draw(0, 0, 0), 799);
        rooms("from the first room", x, 0, 0, 499, 0, 300, 0);
        x.write(0, 600);
        Check.same("over rooms", () -> x.draw(0, 0, 0), 199);
        rooms("over rooms", x, 0, 0, 0, 0, 199, 0);
        x.write(0, 200);
        Check.refused("not so many", UnsupportedOperationException.class,
                () -> x.draw(0, 0, 0));
        rooms("all or none", x, 0, 0, 0, 0, 199, 0);
        x.write(0, 0);
        Check.same("an order of none", () -> x.draw(0, 0, 0), 199);
        Check.same("an order of none of a good that is not there", () -> x.draw(0, 2, 0), 0);
        x.write(0, 199);
        Check.same("just so many", () -> x.draw(0, 0, 0), 0);
        rooms("the other good stays", x, 0, 1, 0, 30, 0, 0);
        Check.same("a room is empty then", () -> x.put(0, 3, 500), 500);
        rooms("a room is empty then", x, 0, 3, 500, 0, 0, 0);
        Check.same("sound", () -> x.isSound(), true);
    }

    private static void drawWrong() {
        Quipuhall x = new Quipuhall();
        x.main();
        Check.refused("no storehouse", IndexOutOfBoundsException.class, () -> x.draw(0, 0, 0));
        x.house(1);
        for (int wrong : new int[] {-1, 1, Integer.MIN_VALUE, Integer.MAX_VALUE}) {
            Check.refused("house", IndexOutOfBoundsException.class, () -> x.draw(wrong, 4, 0));
            Check.refused("cord", IndexOutOfBoundsException.class, () -> x.draw(0, 4, wrong));
        }
        x.put(0, 0, 9);
        x.tie(0, 0, 'n', 1);
        for (int wrong : new int[] {-1, 4, Integer.MIN_VALUE, Integer.MAX_VALUE}) {
            Check.refused("good", IllegalArgumentException.class, () -> x.draw(0, wrong, 0));
        }
        Check.refused("no number", UnsupportedOperationException.class, () -> x.draw(0, 0, 0));
        x.write(0, 9999999);
        Check.refused("not so many", UnsupportedOperationException.class,
                () -> x.draw(0, 0, 0));
        x.write(0, 9);
        Check.refused("another good", UnsupportedOperationException.class,
                () -> x.draw(0, 1, 0));
        Check.same("draw", () -> x.draw(0, 0, 0), 0);
    }

    private static void spoil() {
        Quipuhall x = new Quipuhall();
        Check.same("nothing to spoil", () -> x.spoil(), 0);
        x.main();
        x.house(4);
        x.house(4);
        int[] pieces = {499, 499, 499, 499};
        for (int good = 0; good < 4; good++) {
            x.put(0, good, pieces[good]);
        }
        Check.same("cut in each room", () -> x.spoil(), 49 + 24 + 9);
        Check.same("a tenth", () -> x.pieces(0, 0, 0), 450);
        Check.same("a twentieth", () -> x.pieces(0, 1, 1), 475);
        Check.same("a fiftieth", () -> x.pieces(0, 2, 2), 490);
        Check.same("nothing", () -> x.pieces(0, 3, 3), 499);
        x.put(1, 0, 509);
        Check.same("all storehouses, each room by itself", () -> x.spoil(),
                45 + 23 + 9 + 50 + 0);
        rooms("each room by itself", x, 1, 0, 450, 9, 0, 0);
        Check.same("sound", () -> x.isSound(), true);
        Quipuhall y = new Quipuhall();
        y.house(3);
        y.put(0, 0, 9);
        y.put(0, 1, 19);
        y.put(0, 2, 49);
        Check.same("too few to lose one", () -> y.spoil(), 0);
        y.put(0, 0, 1);
        y.put(0, 1, 1);
        y.put(0, 2, 1);
        Check.same("one each", () -> y.spoil(), 3);
    }

    private static void pieces() {
        Quipuhall x = new Quipuhall();
        Check.refused("no storehouse", IndexOutOfBoundsException.class,
                () -> x.pieces(0, 0, 0));
        x.house(2);
        for (int wrong : new int[] {-1, 2, Integer.MIN_VALUE, Integer.MAX_VALUE}) {
            Check.refused("house", IndexOutOfBoundsException.class,
                    () -> x.pieces(wrong, 0, 4));
            Check.refused("room", IndexOutOfBoundsException.class,
                    () -> x.pieces(0, wrong, 4));
        }
        Check.refused("house", IndexOutOfBoundsException.class, () -> x.pieces(1, 0, 0));
        for (int wrong : new int[] {-1, 4, Integer.MIN_VALUE, Integer.MAX_VALUE}) {
            Check.refused("good", IllegalArgumentException.class, () -> x.pieces(0, 0, wrong));
        }
        x.put(0, 3, 5);
        Check.same("pieces", () -> x.pieces(0, 0, 3), 5);
        for (int good = 0; good < 3; good++) {
            int asked = good;
            Check.same("another good", () -> x.pieces(0, 0, asked), 0);
        }
    }
}
