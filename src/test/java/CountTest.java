/** Promises 1 (a new object) and 19 (count). */
public final class CountTest {
    private static void counts(String when, ScanCodes x, int... due) {
        for (int what = 0; what < due.length; what++) {
            int n = what;
            Due.is(when + ": count(" + n + ")", due[n], () -> x.count(n));
        }
    }

    private static void forms() {
        int[][] rows = {{-1, 0}, {Integer.MIN_VALUE, 0}, {0, 0}, {1, 1}, {2, 2}, {3, 2}, {Integer.MAX_VALUE, 2}};
        for (int[] row : rows) {
            ScanCodes x = new ScanCodes(row[0]);
            counts("new with form " + row[0], x, 0, 0, 0, 0, 0, 0, 0, row[1]);
            Due.is("nothing mended", 0, () -> x.mended());
            Due.is("no hint", -1, () -> x.hint(0));
            Due.refused("nothing written", Due.STATE, () -> x.make());
            Due.refused("nothing made", Due.INDEX, () -> x.module(0));
            x.prefix(10, 1, true, -1);
            x.field(10, 1, 1);
            Due.is("modules of four signs", row[1] == 0 ? 16 : 28, () -> x.make());
        }
    }

    private static void each() {
        ScanCodes x = new ScanCodes(0);
        x.prefix(10, 2, false, 3);
        x.prefix(20, 1, true, -1);
        counts("prefixes", x, 2, 0, 0, 0, 0, 0, 0, 0);
        x.field(10, 5, 2);
        counts("a field", x, 2, 1, 0, 0, 0, 0, 0, 0);
        x.make();
        counts("made", x, 2, 1, 20, 0, 0, 0, 0, 0);
        x.field(20, 5, 1);
        counts("another field", x, 2, 2, 20, 0, 0, 0, 0, 0);
        x.begin();
        counts("begun", x, 2, 0, 20, 0, 0, 0, 0, 0);
        x.read(2);
        x.read(1);
        x.read(0);
        counts("read", x, 2, 0, 20, 3, 0, 0, 0, 0);
        Due.type(x, "1012/2011");
        counts("typed", x, 2, 0, 20, 3, 9, 0, 0, 0);
        Due.is("taken apart", -2, () -> x.parseTyped());
        counts("wrong", x, 2, 0, 20, 3, 9, 0, 0, 0);
        Due.apart(x, "1012/201");
        counts("right", x, 2, 0, 20, 0, 9, 2, 0, 0);
        x.scan(1, 1);
        counts("refused by a station", x, 2, 0, 20, 0, 9, 2, 0, 0);
        x.scan(3, 1);
        x.scan(3, 2);
        counts("scanned twice", x, 2, 0, 20, 0, 9, 2, 1, 0);
        x.read(0);
        x.parse();
        counts("what was read is no whole sign", x, 2, 0, 20, 1, 9, 0, 1, 0);
        x.clear();
        counts("cleared", x, 2, 0, 20, 0, 0, 0, 1, 0);
    }

    private static void others() {
        ScanCodes x = new ScanCodes(1);
        int[] whats = {-1, 8, 9, Integer.MIN_VALUE, Integer.MAX_VALUE};
        for (int what : whats) {
            Due.is("count(" + what + ")", -1, () -> x.count(what));
        }
    }

    private static void apart() {
        // No object knows of another one.
        ScanCodes x = new ScanCodes(0);
        ScanCodes y = new ScanCodes(1);
        x.prefix(10, 1, true, -1);
        x.field(10, 1, 1);
        x.make();
        x.read(1);
        x.typed(1);
        counts("the other one", y, 0, 0, 0, 0, 0, 0, 0, 1);
    }

    public static void main(String[] args) {
        forms();
        each();
        others();
        apart();
        Due.done("CountTest");
    }
}
