/** Promises 10 (typed), 12 (parseTyped), 13 (check), 14 (known), 15 (value) and 17 (hint). */
public final class TypedTest {
    private static ScanCodes withPrefixes() {
        ScanCodes x = new ScanCodes(1);
        x.prefix(15, 2, true, -1);
        x.prefix(16, 1, true, -1);
        x.prefix(25, 12, false, -1);
        x.prefix(26, 3, false, -1);
        for (int prefix = 90; prefix < 96; prefix++) {
            x.prefix(prefix, 1, true, -1);
        }
        return x;
    }

    private static void types() {
        ScanCodes x = withPrefixes();
        for (int i = 1; i <= 60; i++) {
            int n = i;
            Due.is("typed", n, () -> x.typed(n % 11));
        }
        Due.refused("one more", Due.NO_ROOM, () -> x.typed(0));
        Due.refused("the range comes first", Due.ARGUMENT, () -> x.typed(11));
        Due.is("count(4)", 60, () -> x.count(4));
        x.clear();
        int[] bad = {-1, 11, 15, Integer.MIN_VALUE, Integer.MAX_VALUE};
        for (int sign : bad) {
            Due.refused("typed(" + sign + ")", Due.ARGUMENT, () -> x.typed(sign));
        }
        Due.is("the first again", 1, () -> x.typed(10));
    }

    private static void checks() {
        ScanCodes x = withPrefixes();
        Due.refused("check() of nothing", Due.STATE, () -> x.check());
        x.read(1);
        Due.refused("check() of what was read", Due.STATE, () -> x.check());
        // Each sign with the check sign behind all up to it, reckoned by hand.
        int[][] rows = {{1, 7}, {2, 3}, {10, 5}, {3, 4}, {0, 2}, {9, 7}};
        for (int[] row : rows) {
            x.typed(row[0]);
            Due.is("check() behind " + row[0], row[1], () -> x.check());
        }
        x.clear();
        x.typed(0);
        Due.is("check() of 0", 0, () -> x.check());
        Due.is("it types nothing", 1, () -> x.count(4));
        x.clear();
        x.typed(1);
        Due.is("check() of 1", 7, () -> x.check());
        x.typed(10);
        Due.is("a separator counts as 10", 9, () -> x.check());
        x.typed(4);
        Due.is("check() of 1, 10, 4", 5, () -> x.check());
    }

    private static void tooShortOrChecked() {
        ScanCodes x = withPrefixes();
        Due.refused("parseTyped() of nothing", Due.STATE, () -> x.parseTyped());
        x.read(0);
        Due.refused("parseTyped() of what was read", Due.STATE, () -> x.parseTyped());
        Due.is("two signs", -1, () -> Due.apart(x, "1"));
        Due.is("three signs", -1, () -> Due.apart(x, "16"));
        Due.is("four signs", 1, () -> Due.apart(x, "169"));
        x.clear();
        Due.type(x, "169/");
        Due.is("a separator at the end", -1, () -> x.parseTyped());
        x.clear();
        Due.type(x, "///");
        Due.is("three separators", -1, () -> x.parseTyped());
        for (int check = 0; check <= 9; check++) {
            x.clear();
            Due.type(x, "169" + check);
            Due.is("169 and " + check, check == 4 ? 1 : -2, () -> x.parseTyped());
        }
        x.clear();
        Due.type(x, "991234560");
        Due.is("the check sign comes before the prefix", -2, () -> x.parseTyped());
    }

    private static void wrongs() {
        Object[][] rows = {
            // six fields, and a sign more
            {"900911922933944955", 6}, {"9009119229339449551", -3}, {"900911922933944955161", -3},
            {"900911922933944955/", -3}, {"900911922933944955900", -3},
            // prefixes
            {"1699", -4}, {"169/", -4}, {"1691", -4}, {"0515", -4}, {"9916", -4}, {"/516", -4}, {"1/16", -4},
            {"169169", -4}, {"1512161/", -4}, {"15121612", -4}, {"1512/161", -4}, {"251/251", -4},
            {"169251/169", -4},
            // lengths
            {"151", -5}, {"169151", -5}, {"1691512", 2}, {"16915", -5}, {"25/", -5}, {"25/161", -5}, {"16925", -5},
            {"25" + "1234567890123", -5}, {"25" + "1234567890123/161", -5}, {"261234", -5}, {"261234/", -5},
            {"25123456789012", 1}, {"25123456789012/161", 2}, {"251", 1}, {"26123", 1}, {"261", 1},
            // separators
            {"151/", -6}, {"15/1", -6}, {"15//", -6}, {"16/", -6}, {"251/", -6}, {"26123/", -6},
            {"25123456789012/", -6}, {"169251/", -6}, {"15/1161", -6}, {"251/161", 2}, {"251//", -4},
            // the first field that is wrong tells what
            {"151/99", -6}, {"99151/", -4}, {"15/19", -6}, {"16/99", -6}, {"25/99", -5},
            // the length of a fixed field comes before its separators
            {"15/", -5}, {"169/15", -4}, {"16915/", -5},
        };
        for (Object[] row : rows) {
            ScanCodes x = withPrefixes();
            int due = (Integer) row[1];
            Due.is("taken apart: " + row[0], due, () -> Due.apart(x, (String) row[0]));
            Due.is("fields of it: " + row[0], Math.max(due, 0), () -> x.count(5));
            if (due < 0) {
                Due.refused("known of it: " + row[0], Due.NO_SUCH, () -> x.known(0, 0));
                Due.refused("value of it: " + row[0], Due.NO_SUCH, () -> x.value(0));
                Due.refused("scan of it: " + row[0], Due.STATE, () -> x.scan(0, 0));
            }
        }
    }

    private static void fieldByField() {
        ScanCodes x = withPrefixes();
        x.needs(16, 15);
        Due.is("a need that is not there", -7, () -> Due.apart(x, "169"));
        Due.is("what else is wrong comes first", -6, () -> Due.apart(x, "169251/"));
        Due.is("a check sign too", -2, () -> {
            x.clear();
            Due.type(x, "1695");
            return x.parseTyped();
        });
        Due.is("the need is there", 2, () -> Due.apart(x, "169" + "1500"));
        Due.is("the need of a later field", -7, () -> Due.apart(x, "251/169"));
    }

    private static void knownFields() {
        ScanCodes x = withPrefixes();
        Due.is("three fields", 3, () -> Due.apart(x, "25999999999999/1611507"));
        Due.is("prefix 0", 25, () -> x.known(0, 0));
        Due.is("digits 0", 12, () -> x.known(0, 1));
        Due.is("number 0", 999999999999L, () -> x.value(0));
        Due.is("prefix 1", 16, () -> x.known(1, 0));
        Due.is("digits 1", 1, () -> x.known(1, 1));
        Due.is("number 1", 1, () -> x.value(1));
        Due.is("prefix 2", 15, () -> x.known(2, 0));
        Due.is("digits 2", 2, () -> x.known(2, 1));
        Due.is("number 2", 7, () -> x.value(2));
        int[] bad = {-1, 3, 6, Integer.MIN_VALUE, Integer.MAX_VALUE};
        for (int i : bad) {
            Due.refused("known(" + i + ", 0)", Due.NO_SUCH, () -> x.known(i, 0));
            Due.refused("known(" + i + ", 2)", Due.NO_SUCH, () -> x.known(i, 2));
            Due.refused("value(" + i + ")", Due.NO_SUCH, () -> x.value(i));
        }
        int[] whats = {-1, 2, Integer.MIN_VALUE, Integer.MAX_VALUE};
        for (int what : whats) {
            Due.refused("known(0, " + what + ")", Due.ARGUMENT, () -> x.known(0, what));
        }
        x.clear();
        Due.refused("a new object's field, cleared", Due.NO_SUCH, () -> x.known(0, 2));
        Due.apart(x, "25000");
        Due.is("zeros in front", 0, () -> x.value(0));
        Due.is("are digits", 3, () -> x.known(0, 1));
        x.prefix(25, 1, true, -1);
        Due.is("a prefix told anew changes nothing here", 3, () -> x.known(0, 1));
    }

    private static void hints() {
        ScanCodes x = withPrefixes();
        Due.is("nothing taken apart", -1, () -> x.hint(0));
        Due.refused("below 0", Due.ARGUMENT, () -> x.hint(-1));
        Due.refused("far below 0", Due.ARGUMENT, () -> x.hint(Integer.MIN_VALUE));
        Due.is("95 is there, 35 is not", -4, () -> Due.apart(x, "169351"));
        int[] due = {15, 25, 95, -1};
        for (int i = 0; i < due.length; i++) {
            int n = i;
            Due.is("hint(" + n + ") for 35", due[n], () -> x.hint(n));
        }
        Due.is("hint of a great number", -1, () -> x.hint(Integer.MAX_VALUE));
        Due.refused("below 0 with hints", Due.ARGUMENT, () -> x.hint(-1));
        Due.is("two digits that are no prefix at all", -4, () -> Due.apart(x, "0512"));
        Due.is("hint for 05", 15, () -> x.hint(0));
        Due.is("next hint for 05", 25, () -> x.hint(1));
        x.prefix(35, 1, true, -1);
        x.prefix(11, 1, true, -1);
        Due.is("known prefixes as they are now", 35, () -> x.hint(2));
        Due.apart(x, "151215121");
        Due.is("a prefix twice is not unknown", -1, () -> x.hint(0));
        Due.apart(x, "1691");
        Due.is("not two signs", -1, () -> x.hint(0));
        Due.apart(x, "1/15");
        Due.is("not two digits", -1, () -> x.hint(0));
        Due.apart(x, "/515");
        Due.is("nor these", -1, () -> x.hint(0));
        Due.apart(x, "3412");
        Due.is("hint for 34", 35, () -> x.hint(0));
        Due.is("of 94", 94, () -> x.hint(1));
        Due.is("no more", -1, () -> x.hint(2));
        x.prefix(34, 1, true, -1);
        Due.is("the prefix itself is none", 35, () -> x.hint(0));
    }

    private static void hintsAtTheEnds() {
        ScanCodes x = new ScanCodes(2);
        int[] known = {99, 10, 98, 89, 11, 20, 21};
        for (int prefix : known) {
            x.prefix(prefix, 1, true, -1);
        }
        Object[][] rows = {
            {"90", 10, 20, 98, 99, -1}, {"19", 10, 11, 89, 99, -1}, {"88", 89, 98, -1}, {"97", 98, 99, -1},
            {"00", 10, 20, -1}, {"01", 11, 21, -1}, {"09", 89, 99, -1}, {"12", 10, 11, -1}, {"33", -1},
        };
        for (Object[] row : rows) {
            Due.is("unknown " + row[0], -4, () -> Due.apart(x, row[0] + "1"));
            for (int i = 1; i < row.length; i++) {
                int n = i - 1;
                Due.is("hint(" + n + ") for " + row[0], (Integer) row[i], () -> x.hint(n));
            }
        }
    }

    private static void hintsEnd() {
        ScanCodes x = withPrefixes();
        String[] others = {"169", "1", "15/1", "151", "9009119229339449551"};
        for (String other : others) {
            Due.apart(x, "1412");
            Due.is("hint for 14", 15, () -> x.hint(0));
            Due.apart(x, other);
            Due.is("no hint after " + other, -1, () -> x.hint(0));
        }
        Due.apart(x, "1412");
        x.clear();
        Due.type(x, "1690");
        x.parseTyped();
        Due.is("no hint after a wrong check sign", -1, () -> x.hint(0));
    }

    public static void main(String[] args) {
        types();
        checks();
        tooShortOrChecked();
        wrongs();
        fieldByField();
        knownFields();
        hints();
        hintsAtTheEnds();
        hintsEnd();
        Due.done("TypedTest");
    }
}
