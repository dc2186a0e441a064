/** Promises 2 (prefix) and 3 (needs). */
public final class PrefixTest {
    private static void howMany() {
        ScanCodes x = new ScanCodes(0);
        Due.is("prefix 10", 1, () -> x.prefix(10, 1, true, -1));
        Due.is("prefix 99", 2, () -> x.prefix(99, 12, false, 7));
        Due.is("prefix 50", 3, () -> x.prefix(50, 6, true, 0));
        Due.is("prefix 99 anew", 3, () -> x.prefix(99, 2, true, -1));
        Due.is("count(0)", 3, () -> x.count(0));
    }

    private static void anew() {
        ScanCodes x = new ScanCodes(0);
        x.prefix(30, 3, true, 1);
        Due.is("fixed: three digits", 1, () -> Due.apart(x, "30123"));
        Due.is("fixed: its station", 1, () -> x.scan(1, 0));
        x.prefix(30, 4, false, 2);
        Due.is("loose: one digit", 1, () -> Due.apart(x, "301"));
        Due.is("loose: four digits", 1, () -> Due.apart(x, "301234"));
        Due.is("loose: five digits", -5, () -> Due.apart(x, "3012345"));
        x.needs(30, 31);
        Due.is("needs 31", -7, () -> Due.apart(x, "301"));
        x.prefix(30, 4, false, 2);
        Due.is("told anew it needs none", 1, () -> Due.apart(x, "301"));
        Due.is("the new station", 1, () -> x.scan(2, 0));
        Due.is("not the old station", -1, () -> x.scan(1, 0));
    }

    private static void outOfRange() {
        ScanCodes x = new ScanCodes(0);
        int[][] bad = {
            {9, 1, 0}, {100, 1, 0}, {0, 1, 0}, {-10, 1, 0}, {Integer.MIN_VALUE, 1, 0}, {Integer.MAX_VALUE, 1, 0},
            {10, 0, 0}, {10, 13, 0}, {10, -1, 0}, {10, Integer.MAX_VALUE, 0}, {10, Integer.MIN_VALUE, 0},
            {10, 1, 8}, {10, 1, -2}, {10, 1, Integer.MAX_VALUE}, {10, 1, Integer.MIN_VALUE},
        };
        for (int[] b : bad) {
            Due.refused("prefix(" + b[0] + ", " + b[1] + ", true, " + b[2] + ")", Due.ARGUMENT,
                    () -> x.prefix(b[0], b[1], true, b[2]));
        }
        Due.is("none is known", 0, () -> x.count(0));
    }

    private static void noRoom() {
        ScanCodes x = new ScanCodes(0);
        for (int i = 0; i < 16; i++) {
            int prefix = 20 + i;
            Due.is("prefix " + prefix, i + 1, () -> x.prefix(prefix, 1, true, -1));
        }
        Due.refused("the seventeenth", Due.NO_ROOM, () -> x.prefix(99, 1, true, -1));
        Due.refused("the range comes first", Due.ARGUMENT, () -> x.prefix(99, 13, true, -1));
        Due.is("one of the sixteen anew", 16, () -> x.prefix(35, 2, true, -1));
        Due.is("the seventeenth is not known", -4, () -> Due.apart(x, "991"));
    }

    private static void needed() {
        ScanCodes x = new ScanCodes(0);
        x.prefix(10, 1, true, -1);
        x.prefix(20, 1, true, -1);
        x.needs(10, 20);
        Due.is("the other is not there", -7, () -> Due.apart(x, "101"));
        Due.is("the other behind", 2, () -> Due.apart(x, "101202"));
        Due.is("the other in front", 2, () -> Due.apart(x, "202101"));
        Due.is("the other needs none", 1, () -> Due.apart(x, "202"));
        x.needs(20, 10);
        Due.is("both ways", 2, () -> Due.apart(x, "202101"));
        Due.is("one of both", -7, () -> Due.apart(x, "202"));
        x.needs(10, 0);
        Due.is("no need any more", 1, () -> Due.apart(x, "101"));
        x.needs(10, 99);
        Due.is("one that is not known", -7, () -> Due.apart(x, "101"));
        x.needs(10, 20);
        Due.is("instead", 2, () -> Due.apart(x, "101202"));
    }

    private static void needsRefused() {
        ScanCodes x = new ScanCodes(0);
        x.prefix(10, 1, true, -1);
        int[] unknown = {11, 9, 100, 0, -1, Integer.MIN_VALUE, Integer.MAX_VALUE};
        for (int prefix : unknown) {
            Due.refused("needs(" + prefix + ", 0)", Due.NO_SUCH, () -> x.needs(prefix, 0));
            Due.refused("needs(" + prefix + ", 5)", Due.NO_SUCH, () -> x.needs(prefix, 5));
            Due.refused("needs(" + prefix + ", itself)", Due.NO_SUCH, () -> x.needs(prefix, prefix));
        }
        int[] others = {10, 9, 1, 100, -1, Integer.MIN_VALUE, Integer.MAX_VALUE};
        for (int other : others) {
            Due.refused("needs(10, " + other + ")", Due.ARGUMENT, () -> x.needs(10, other));
        }
        Due.is("refused needs leave none", 1, () -> Due.apart(x, "101"));
    }

    public static void main(String[] args) {
        howMany();
        anew();
        outOfRange();
        noRoom();
        needed();
        needsRefused();
        Due.done("PrefixTest");
    }
}
