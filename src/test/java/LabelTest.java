/** Promises 4 (begin), 5 (field), 6 (make) and 7 (module). */
public final class LabelTest {
    private static ScanCodes withPrefixes(int form) {
        ScanCodes x = new ScanCodes(form);
        x.prefix(10, 4, false, -1);
        x.prefix(21, 3, true, -1);
        for (int prefix = 30; prefix < 37; prefix++) {
            x.prefix(prefix, 12, false, -1);
        }
        return x;
    }

    private static void fields() {
        ScanCodes x = withPrefixes(0);
        Due.is("loose, all digits", 1, () -> x.field(10, 9999, 4));
        Due.is("fixed, zeros in front", 2, () -> x.field(21, 0, 3));
        Due.is("twelve digits", 3, () -> x.field(30, 999999999999L, 12));
        Due.is("one digit of twelve", 4, () -> x.field(31, 9, 1));
        Due.is("the fifth", 5, () -> x.field(32, 1, 12));
        Due.is("the sixth", 6, () -> x.field(33, 10, 2));
        Due.refused("a seventh", Due.STATE, () -> x.field(34, 1, 1));
        Due.is("count(1)", 6, () -> x.count(1));
        x.begin();
        Due.is("count(1) begun anew", 0, () -> x.count(1));
        Due.is("the first again", 1, () -> x.field(10, 9999, 4));
        Due.is("after begin a prefix may come again", 2, () -> x.field(21, 0, 3));
    }

    private static void fieldRefused() {
        ScanCodes x = withPrefixes(0);
        int[] unknown = {11, 9, 100, 0, -1, Integer.MIN_VALUE, Integer.MAX_VALUE};
        for (int prefix : unknown) {
            Due.refused("field of " + prefix, Due.NO_SUCH, () -> x.field(prefix, 1, 1));
            Due.refused("bad field of " + prefix, Due.NO_SUCH, () -> x.field(prefix, -1, 13));
        }
        Due.refused("below 0", Due.ARGUMENT, () -> x.field(10, -1, 1));
        Due.refused("far below 0", Due.ARGUMENT, () -> x.field(10, Long.MIN_VALUE, 4));
        Due.refused("more digits", Due.ARGUMENT, () -> x.field(10, 10, 1));
        Due.refused("more digits than twelve", Due.ARGUMENT, () -> x.field(30, 1000000000000L, 12));
        Due.refused("far more digits", Due.ARGUMENT, () -> x.field(30, Long.MAX_VALUE, 12));
        Due.refused("no digits", Due.ARGUMENT, () -> x.field(10, 0, 0));
        Due.refused("digits below 0", Due.ARGUMENT, () -> x.field(10, 0, Integer.MIN_VALUE));
        Due.refused("thirteen digits", Due.ARGUMENT, () -> x.field(30, 0, 13));
        Due.refused("many digits", Due.ARGUMENT, () -> x.field(30, 0, Integer.MAX_VALUE));
        Due.refused("loose, too many", Due.ARGUMENT, () -> x.field(10, 1, 5));
        Due.refused("fixed, too few", Due.ARGUMENT, () -> x.field(21, 1, 2));
        Due.refused("fixed, too many", Due.ARGUMENT, () -> x.field(21, 1, 4));
        Due.is("none of these was written", 0, () -> x.count(1));
        x.field(10, 1, 1);
        Due.refused("the same prefix", Due.STATE, () -> x.field(10, 2, 2));
        Due.refused("the range comes first", Due.ARGUMENT, () -> x.field(10, 22, 1));
        Due.is("one is written", 1, () -> x.count(1));
    }

    private static void sixAndRanges() {
        ScanCodes x = withPrefixes(0);
        for (int prefix = 30; prefix < 36; prefix++) {
            x.field(prefix, 1, 1);
        }
        Due.refused("the range comes before six", Due.ARGUMENT, () -> x.field(36, 11, 1));
        Due.refused("an unknown prefix comes before six", Due.NO_SUCH, () -> x.field(98, 1, 1));
        Due.refused("six, a new prefix", Due.STATE, () -> x.field(36, 1, 1));
        Due.refused("six, an old prefix", Due.STATE, () -> x.field(30, 1, 1));
    }

    private static void forms() {
        // 10 42 / 21 007 and the check sign 1, as signs.
        String signs = "1042/210071";
        String plain = "0001 0000 0100 0010 1010 0010 0001 0000 0000 0111 0001".replace(" ", "");
        // Seven modules of each sign, written out by hand from a + b + d, a + c + d, b + c + d.
        String[] words = {"0000000", "0001111", "0010011", "0011100", "0100101", "0101010", "0110110", "0111001",
            "1000110", "1001001", "1010101"};
        StringBuilder seven = new StringBuilder();
        StringBuilder woven = new StringBuilder();
        for (int i = 0; i < signs.length(); i++) {
            seven.append(words[Due.signOf(signs.charAt(i))]);
        }
        for (int k = 0; k < 7; k++) {
            for (int i = 0; i < signs.length(); i++) {
                woven.append(words[Due.signOf(signs.charAt(i))].charAt(k));
            }
        }
        String[] due = {plain, seven.toString(), woven.toString()};
        for (int form = 0; form < 3; form++) {
            ScanCodes x = withPrefixes(form);
            x.field(10, 42, 2);
            x.field(21, 7, 3);
            String modules = due[form];
            Due.is("make() in form " + form, modules.length(), () -> x.make());
            Due.compare("the modules in form " + form, modules, Due.modules(x));
        }
    }

    private static void allSigns() {
        // Every digit in one label, and a separator: 30 5678901234 / 31 9 and its check sign.
        ScanCodes x = new ScanCodes(1);
        x.prefix(30, 12, false, -1);
        x.prefix(31, 12, false, -1);
        x.field(30, 5678901234L, 10);
        x.field(31, 9, 1);
        Due.is("make()", 17 * 7, () -> x.make());
        Due.compare("all signs", "0011100" + "0000000" + "0101010" + "0110110" + "0111001" + "1000110" + "1001001"
                + "0000000" + "0001111" + "0010011" + "0011100" + "0100101" + "1010101" + "0011100" + "0001111"
                + "1001001" + "0101010", Due.modules(x));
    }

    private static void separators() {
        ScanCodes x = withPrefixes(0);
        x.field(10, 1, 1);
        Due.is("a last loose field has no separator", 16, () -> x.make());
        x.field(30, 1, 1);
        Due.is("an earlier one has", 32, () -> x.make());
        x.prefix(10, 4, true, -1);
        Due.is("as its prefix is now: fixed", 28, () -> x.make());
        x.prefix(10, 1, false, -1);
        Due.is("as its prefix is now: loose", 32, () -> x.make());
        x.begin();
        x.field(21, 1, 3);
        x.field(10, 1, 1);
        Due.is("a fixed one has none", 36, () -> x.make());
    }

    private static void makeRefused() {
        ScanCodes x = withPrefixes(1);
        Due.refused("make() of nothing", Due.STATE, () -> x.make());
        Due.is("nothing was made", 0, () -> x.count(2));
        Due.refused("module(0) of nothing", Due.INDEX, () -> x.module(0));
        // Four fields of fifteen signs less the last separator, and the check sign: 60.
        for (int prefix = 30; prefix < 34; prefix++) {
            x.field(prefix, 999999999999L, 12);
        }
        Due.is("60 signs", 420, () -> x.make());
        Due.refused("module(420)", Due.INDEX, () -> x.module(420));
        x.begin();
        x.field(30, 1, 12);
        x.field(31, 1, 12);
        x.field(32, 1, 12);
        x.field(33, 1, 8);
        x.field(34, 1, 1);
        Due.is("60 signs of five fields", 420, () -> x.make());
        x.begin();
        x.field(30, 1, 1);
        Due.is("four signs", 28, () -> x.make());
        String before = Due.modules(x);
        x.begin();
        x.field(30, 1, 12);
        x.field(31, 1, 12);
        x.field(32, 1, 12);
        x.field(33, 1, 9);
        x.field(34, 1, 1);
        Due.refused("61 signs", Due.NO_ROOM, () -> x.make());
        Due.is("the label made before stays", 28, () -> x.count(2));
        Due.compare("its modules stay", before, Due.modules(x));
        x.begin();
        for (int prefix = 30; prefix < 36; prefix++) {
            x.field(prefix, 999999999999L, 12);
        }
        Due.refused("90 signs", Due.NO_ROOM, () -> x.make());
        x.begin();
        Due.refused("make() after begin()", Due.STATE, () -> x.make());
        Due.is("begin() leaves the label made before", 28, () -> x.count(2));
    }

    private static void noModule() {
        ScanCodes x = withPrefixes(2);
        x.field(10, 1, 1);
        x.make();
        int[] bad = {-1, 28, 29, 420, Integer.MIN_VALUE, Integer.MAX_VALUE};
        for (int i : bad) {
            Due.refused("module(" + i + ")", Due.INDEX, () -> x.module(i));
        }
        // 10 1 7: the woven seventh modules end with that of 7.
        Due.is("module(27)", 1, () -> x.module(27));
        x.field(30, 123456, 6);
        Due.is("a written field is not made yet", 28, () -> x.count(2));
        x.make();
        x.begin();
        x.field(10, 1, 1);
        x.make();
        Due.refused("a shorter label leaves nothing behind", Due.INDEX, () -> x.module(28));
        x.clear();
        Due.is("clear() leaves the label", 28, () -> x.count(2));
        Due.is("and what is written", 1, () -> x.count(1));
    }

    public static void main(String[] args) {
        fields();
        fieldRefused();
        sixAndRanges();
        forms();
        allSigns();
        separators();
        makeRefused();
        noModule();
        Due.done("LabelTest");
    }
}
