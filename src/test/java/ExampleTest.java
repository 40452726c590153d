/** The document's examples, each one with a new object. */
final class ExampleTest {
    public static void main(String[] args) {
        sums();
        names();
        stores();
        Check.end();
    }

    private static void sums() {
        Quipuhall x = new Quipuhall();
        Check.same("main", () -> x.main(), 0);
        Check.same("hang", () -> x.hang(0, 'h', 0, 'c'), 1);
        Check.same("hang", () -> x.hang(0, 'h', 0, 'c'), 2);
        Check.same("write", () -> x.write(1, 12), 2);
        Check.same("write", () -> x.write(2, 30), 1);
        Check.same("write", () -> x.write(0, 42), 2);
        Check.same("due", () -> x.due(0), 42);
        Check.same("quarrel", () -> x.quarrel(0), -1);
    }

    private static void names() {
        Quipuhall x = new Quipuhall();
        Check.same("main", () -> x.main(), 0);
        Check.same("tie", () -> x.tie(0, 0, 'n', 3), 0);
        Check.same("isNumber", () -> x.isNumber(0), false);
        Check.same("name", () -> x.name(0), 1027);
        Check.same("reader", () -> x.reader(), 0);
        Check.same("learn", () -> x.learn(0, 0, 7), 1);
        Check.same("word", () -> x.word(0, 0), 7);
    }

    private static void stores() {
        Quipuhall x = new Quipuhall();
        Check.same("house", () -> x.house(1), 0);
        Check.same("put", () -> x.put(0, 0, 100), 100);
        Check.same("spoil", () -> x.spoil(), 10);
        Check.same("pieces", () -> x.pieces(0, 0, 0), 90);
    }
}
