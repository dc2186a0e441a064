/** Promises 8 (clear), 9 (read), 11 (parse) and 16 (mended). */
public final class ReadTest {
    /** 16 9 4 in seven modules a sign. */
    private static final String SEVEN = "0001111 0110110 1001001 0100101";

    private static ScanCodes withPrefix(int form) {
        ScanCodes x = new ScanCodes(form);
        x.prefix(16, 1, true, -1);
        return x;
    }

    /** The modules of signs as form 2 weaves them. */
    private static String woven(String seven) {
        String[] words = seven.split(" ");
        StringBuilder all = new StringBuilder();
        for (int k = 0; k < 7; k++) {
            for (String word : words) {
                all.append(word.charAt(k));
            }
        }
        return all.toString();
    }

    private static void reads() {
        ScanCodes x = withPrefix(1);
        for (int i = 1; i <= 420; i++) {
            int n = i;
            Due.is("read", n, () -> x.read(n % 3));
        }
        Due.refused("one more", Due.NO_ROOM, () -> x.read(0));
        Due.refused("the range comes first", Due.ARGUMENT, () -> x.read(3));
        Due.is("count(3)", 420, () -> x.count(3));
        x.clear();
        Due.is("count(3) cleared", 0, () -> x.count(3));
        int[] bad = {-1, 3, Integer.MIN_VALUE, Integer.MAX_VALUE};
        for (int value : bad) {
            Due.refused("read(" + value + ")", Due.ARGUMENT, () -> x.read(value));
        }
        Due.is("the first again", 1, () -> x.read(2));
    }

    private static void nothingRead() {
        ScanCodes x = withPrefix(0);
        Due.refused("parse() of nothing", Due.STATE, () -> x.parse());
        Due.typeChecked(x, "169");
        x.parseTyped();
        Due.refused("parse() of what was typed", Due.STATE, () -> x.parse());
        Due.is("what was taken apart stays", 1, () -> x.count(5));
    }

    private static void plain() {
        ScanCodes x = withPrefix(0);
        Due.is("form 0", 1, () -> Due.readApart(x, "0001 0110 1001 0100"));
        Due.is("its number", 9, () -> x.value(0));
        Due.is("nothing to mend", 0, () -> x.mended());
        Due.is("parsed again", 1, () -> x.parse());
        Due.is("a wrong module is another sign", -2, () -> Due.readApart(x, "0001 0110 1000 0100"));
        Due.is("no field of it", 0, () -> x.count(5));
        Due.is("an erased module", 0, () -> Due.readApart(x, "0001 0110 100? 0100"));
        Due.is("erased modules do not count", 0, () -> x.mended());
        Due.is("a sign above 10", 0, () -> Due.readApart(x, "0001 0110 1011 0100"));
        Due.is("three modules", 0, () -> Due.readApart(x, "000"));
        Due.is("seventeen modules", 0, () -> Due.readApart(x, "0001 0110 1001 0100 0"));
        Due.is("three signs", -1, () -> Due.readApart(x, "0001 0110 1001"));
        Due.is("a separator as check sign", -1, () -> Due.readApart(x, "0001 0110 1001 1010"));
        Due.is("an unknown prefix", -4, () -> Due.readApart(x, "0010 0110 1001 0001"));
        Due.is("a hint for it", 16, () -> x.hint(0));
        Due.is("then no whole signs", 0, () -> Due.readApart(x, "0"));
        Due.is("no hint any more", -1, () -> x.hint(0));
    }

    private static void longPlain() {
        // Form 0 lets more signs be read than a label is made with: they are taken apart all the same.
        String zeros = "0".repeat(12);
        String six = "20" + zeros + "21" + zeros + "22" + zeros + "23" + zeros + "24" + zeros + "25" + zeros;
        Due.is("85 signs", 6, () -> Due.readApart(withTwelves(), plainChecked(six)));
        Due.is("105 signs: a seventh field", -3,
                () -> Due.readApart(withTwelves(), plainChecked(six + "9".repeat(20))));
    }

    private static ScanCodes withTwelves() {
        ScanCodes x = new ScanCodes(0);
        for (int prefix = 20; prefix < 26; prefix++) {
            x.prefix(prefix, 12, true, -1);
        }
        return x;
    }

    /** Digits and the check sign behind them, as modules of form 0. */
    private static String plainChecked(String digits) {
        int sum = 0;
        int weight = 3;
        for (int i = digits.length() - 1; i >= 0; i--) {
            sum += weight * (digits.charAt(i) - '0');
            weight = weight == 3 ? 1 : 3;
        }
        StringBuilder modules = new StringBuilder();
        for (char c : (digits + (10 - sum % 10) % 10).toCharArray()) {
            modules.append(word(c - '0'), 0, 4);
        }
        return modules.toString();
    }

    private static void mending() {
        Object[][] rows = {
            {SEVEN, 1, 0},
            {"1001111 0110110 1001001 0100101", 1, 1},
            {"0001110 0110111 1001000 0100100", 1, 4},
            {"0011111 0111110 1011001 0110101", 1, 4},
            {"?001111 0110110 1001001 0100101", 1, 1},
            {"??01111 0110110 1001001 0100101", 1, 2},
            {"??01111 01?01?0 100100? ?10010?", 1, 7},
            {"???1111 0110110 1001001 0100101", 0, 0},
            {"?101111 0110110 1001001 0100101", 0, 0},
            {"?011111 0110110 1001001 0100101", 0, 0},
            {"??11111 0110110 1001001 0100101", 0, 0},
            {"0001111 ??10110 100???1 ?100101", 0, 2},
            {"1001111 0110110 10010?? 010?1?1", 1, 5},
            // 1011 to 1111 can be found, but are no signs: they end the count and do not count.
            {"0001111 0110111 1011010 0100101", 0, 1},
            {"0001111 0110111 101101? 0100101", 0, 1},
            {"0001111 0110111 1111111 ?100101", 0, 1},
            {"1001111 1100011 1001001 0100101", 0, 1},
        };
        for (Object[] row : rows) {
            ScanCodes one = withPrefix(1);
            ScanCodes two = withPrefix(2);
            String seven = (String) row[0];
            int parsed = (Integer) row[1];
            int mended = (Integer) row[2];
            Due.is("form 1: " + seven, parsed, () -> Due.readApart(one, seven));
            Due.is("form 1, mended: " + seven, mended, () -> one.mended());
            Due.is("form 2: " + seven, parsed, () -> Due.readApart(two, woven(seven)));
            Due.is("form 2, mended: " + seven, mended, () -> two.mended());
            if (parsed == 1) {
                Due.is("form 1, number: " + seven, 9, () -> one.value(0));
                Due.is("form 2, number: " + seven, 9, () -> two.value(0));
            }
        }
    }

    private static void everyWord() {
        // Each sign with each single module wrong, and with each two erased, is mended in its place.
        for (int sign = 0; sign <= 15; sign++) {
            String word = word(sign);
            for (int i = 0; i < 7; i++) {
                ScanCodes x = withPrefix(1);
                for (int j = i; j < 7; j++) {
                    String erased = with(with(word, i, '?'), j, '?');
                    String wrong = with(word, i, word.charAt(i) == '1' ? '0' : '1');
                    int gone = i == j ? 1 : 2;
                    boolean whole = sign <= 10;
                    Due.is("erased " + erased, whole ? -1 : 0, () -> Due.readApart(x, erased));
                    Due.is("mended " + erased, whole ? gone : 0, () -> x.mended());
                    Due.is("wrong " + wrong, whole ? -1 : 0, () -> Due.readApart(x, wrong));
                    Due.is("mended " + wrong, whole ? 1 : 0, () -> x.mended());
                }
            }
        }
    }

    private static String word(int sign) {
        int a = sign / 8;
        int b = sign / 4 % 2;
        int c = sign / 2 % 2;
        int d = sign % 2;
        return "" + a + b + c + d + (a + b + d) % 2 + (a + c + d) % 2 + (b + c + d) % 2;
    }

    private static String with(String word, int i, char module) {
        return word.substring(0, i) + module + word.substring(i + 1);
    }

    private static void lastParse() {
        ScanCodes x = withPrefix(1);
        Due.is("a new object", 0, () -> x.mended());
        Due.is("two are mended", 1, () -> Due.readApart(x, "??01111 0110110 1001001 0100101"));
        Due.type(x, "1694");
        Due.is("typed beside", 1, () -> x.parseTyped());
        Due.is("mended by the last parse()", 2, () -> x.mended());
        x.read(0);
        Due.is("29 modules", 0, () -> x.parse());
        Due.is("nothing was mended", 0, () -> x.mended());
        Due.is("one is mended", 1, () -> Due.readApart(x, "1001111 0110110 1001001 0100101"));
        Due.is("the modules stay read", 1, () -> x.parse());
        Due.is("and are mended once", 1, () -> x.mended());
        x.clear();
        Due.is("cleared", 0, () -> x.mended());
        Due.is("a wrong label counts too", -2, () -> Due.readApart(x, "?001111 0110110 1001001 0101010"));
        Due.is("what was mended there", 1, () -> x.mended());
    }

    private static void cleared() {
        ScanCodes x = withPrefix(1);
        Due.readApart(x, SEVEN);
        Due.type(x, "16");
        x.clear();
        Due.is("modules", 0, () -> x.count(3));
        Due.is("signs", 0, () -> x.count(4));
        Due.is("fields", 0, () -> x.count(5));
        Due.is("prefixes stay", 1, () -> x.count(0));
        Due.refused("known(0, 0)", Due.NO_SUCH, () -> x.known(0, 0));
        Due.refused("value(0)", Due.NO_SUCH, () -> x.value(0));
        Due.refused("scan", Due.STATE, () -> x.scan(0, 0));
        Due.refused("parse", Due.STATE, () -> x.parse());
        Due.refused("parseTyped", Due.STATE, () -> x.parseTyped());
        Due.refused("check", Due.STATE, () -> x.check());
        Due.apart(x, "261");
        Due.is("a hint", 16, () -> x.hint(0));
        x.clear();
        Due.is("the hint is forgotten", -1, () -> x.hint(0));
    }

    public static void main(String[] args) {
        reads();
        nothingRead();
        plain();
        longPlain();
        mending();
        everyWord();
        lastParse();
        cleared();
        Due.done("ReadTest");
    }
}
