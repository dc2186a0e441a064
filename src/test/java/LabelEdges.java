/** Boundary cases of promises 4 (begin), 5 (field), 6 (make) and 7 (module). */
final class LabelEdges {
    private static final String BEGIN = "public void begin()";
    private static final String FIELD = "public int field(";
    private static final String MAKE = "public int make()";
    private static final String MODULE = "public int module(";
    private static final String LETS = "boolean lets(";
    private static final String WORD = "int wordOf(";
    private static final String WRITE = "void writeFields()";
    private static final String FIRST_TEST = "if (!prefixes.has(prefix)) {";
    private static final String DIGITS_TEST = "if (digits < 1";
    private static final String NUMBER_TEST = "digitsOf(number) > digits";
    private static final String STATE_TEST =
            "if (written.has(prefix) || written.size() >= MAX_FIELDS) { throw new IllegalStateException(); } ";

    private LabelEdges() {
    }

    static void addTo(Edges all) {
        begins(all);
        fieldUnknown(all);
        digitRange(all);
        zerosInFront(all);
        numberRange(all);
        letDigits(all);
        sixFields(all);
        fieldOrder(all);
        fieldRefused(all);
        noFields(all);
        sixtySigns(all);
        separators(all);
        checkSigns(all);
        fourBits(all);
        restsByTwo(all);
        woven(all);
        noModule(all);
        madeLast(all);
    }

    /** 30 to 36 with up to twelve digits, not fixed. */
    private static ScanCodes twelves(int form) {
        return Edges.loose(form, 30, 12, 31, 12, 32, 12, 33, 12, 34, 12, 35, 12, 36, 12);
    }

    private static void sixWritten(ScanCodes x) {
        for (int prefix = 30; prefix < 36; prefix++) {
            x.field(prefix, 1, 1);
        }
    }

    private static void begins(Edges all) {
        Edges.Sentence s = all.sentence(4, "A new label is begun: nothing is written");
        s.edge("where nothing was", () -> {
            ScanCodes x = twelves(0);
            x.begin();
            x.begin();
            Due.is("count(1)", 0, () -> x.count(1));
            Due.is("the first field", 1, () -> x.field(30, 1, 1));
        }, BEGIN, "written.empty();",
                "if (written.size() == 0) { throw new IllegalStateException(); } written.empty();");
        s.edge("where six fields were", () -> {
            ScanCodes x = twelves(0);
            sixWritten(x);
            x.begin();
            Due.is("count(1)", 0, () -> x.count(1));
            Due.is("the same prefix again", 1, () -> x.field(30, 1, 1));
            Due.is("and one that was not there", 2, () -> x.field(36, 1, 1));
        }, BEGIN, "written.empty();", "if (written.size() < 6) { written.empty(); }");
        s.edge("then no label can be made", () -> {
            ScanCodes x = twelves(0);
            x.field(30, 1, 1);
            x.begin();
            Due.refused("make()", Due.STATE, () -> x.make());
        }, BEGIN, "written.empty();", "");
        s.edge("the one made last stays made", () -> {
            ScanCodes x = twelves(0);
            x.field(30, 1, 1);
            x.make();
            x.begin();
            Due.is("count(2)", 16, () -> x.count(2));
            Due.is("module(2)", 1, () -> x.module(2));
        }, BEGIN, "written.empty();", "written.empty(); made.empty();");
    }

    private static void fieldUnknown(Edges all) {
        Edges.Sentence s = all.sentence(5, "NoSuchElementException: a field or prefix that there is not");
        s.edge("a prefix that is not known", () -> {
            ScanCodes x = Edges.loose(0, 30, 12);
            Due.refused("31", Due.NO_SUCH, () -> x.field(31, 1, 1));
            Due.refused("29", Due.NO_SUCH, () -> x.field(29, 1, 1));
            Due.is("count(1)", 0, () -> x.count(1));
        }, FIELD, "!prefixes.has(prefix)", "!isPrefix(prefix)");
        s.edge("a number that is no prefix", () -> {
            ScanCodes x = Edges.loose(0, 10, 12, 99, 12);
            int[] none = {9, 100, 0, -1, -10, Integer.MIN_VALUE, Integer.MAX_VALUE};
            for (int prefix : none) {
                Due.refused("" + prefix, Due.NO_SUCH, () -> x.field(prefix, 1, 1));
            }
        }, FIELD, FIRST_TEST, "if (!isPrefix(prefix)) { throw new IllegalArgumentException(); } " + FIRST_TEST);
    }

    private static void refusedField(int length, long number, int digits) {
        ScanCodes x = Edges.loose(0, 30, length);
        Due.refused("field(30, " + number + ", " + digits + ")", Due.ARGUMENT, () -> x.field(30, number, digits));
    }

    private static void takenField(int length, long number, int digits) {
        ScanCodes x = Edges.loose(0, 30, length);
        Due.is("field(30, " + number + ", " + digits + ")", 1, () -> x.field(30, number, digits));
        Due.is("its modules", (digits + 3) * 4, () -> x.make());
    }

    private static void digitRange(Edges all) {
        Edges.Sentence s = all.sentence(5, "a number with so many digits (1 .. 12, zeros in front as needed)");
        s.edge("0 digits are too few", () -> refusedField(12, 0, 0), FIELD, DIGITS_TEST,
                "if (digits == 0) { return 1; } " + DIGITS_TEST);
        s.edge("below 0 digits are too few", () -> {
            refusedField(12, 0, -1);
            refusedField(12, 0, Integer.MIN_VALUE);
        }, FIELD, DIGITS_TEST, "if (digits < 0) { return 1; } " + DIGITS_TEST);
        s.edge("1 digit is enough", () -> takenField(12, 0, 1), FIELD, "digits < 1", "digits < 2");
        s.edge("12 digits are not too many", () -> takenField(12, 0, 12), FIELD, "digits > MAX_DIGITS", "digits > 11");
        s.edge("13 digits are too many", () -> refusedField(12, 0, 13), FIELD, DIGITS_TEST,
                "if (digits == 13) { return 1; } " + DIGITS_TEST);
        s.edge("the greatest number of digits is too many", () -> refusedField(12, 0, Integer.MAX_VALUE), FIELD,
                DIGITS_TEST, "if (digits > 13) { return 1; } " + DIGITS_TEST);
    }

    private static void zerosInFront(Edges all) {
        Edges.Sentence s = all.sentence(5, "a number with so many digits (1 .. 12, zeros in front as needed)");
        s.edge("0 with three digits is 000", () -> {
            ScanCodes x = Edges.loose(0, 30, 3);
            x.field(30, 0, 3);
            x.make();
            // 3 * 0 + 0 + 3 * 0 + 0 + 3 * 3 = 9: the check sign is 1.
            Due.compare("30 000 1", "0011" + "0000" + "0000" + "0000" + "0000" + "0001", Due.modules(x));
        }, WRITE, "written.digitsAt(i)", "digitsOf(written.numberAt(i))");
        s.edge("none where the number has as many", () -> {
            ScanCodes x = Edges.loose(0, 30, 12);
            x.field(30, 999999999999L, 12);
            x.make();
            Due.compare("twelve 9", "1001".repeat(12), Due.modules(x).substring(8, 56));
        }, WRITE, "written.numberAt(i),", "written.numberAt(i) % 100000000000L,");
    }

    private static void numberRange(Edges all) {
        Edges.Sentence more = all.sentence(5, "IllegalArgumentException: the number has more digits or is below 0");
        more.edge("9 has one digit", () -> takenField(12, 9, 1), FIELD, NUMBER_TEST, "digitsOf(number + 1) > digits");
        more.edge("10 has more than one", () -> refusedField(12, 10, 1), FIELD, NUMBER_TEST,
                "digitsOf(number - 1) > digits");
        more.edge("0 has one digit", () -> takenField(12, 0, 1), FIELD, "number < 0", "number <= 0");
        more.edge("999999999999 has twelve", () -> takenField(12, 999999999999L, 12), FIELD, NUMBER_TEST,
                "(" + NUMBER_TEST + " || number >= 999999999999L)");
        more.edge("1000000000000 has more than twelve", () -> refusedField(12, 1000000000000L, 12), FIELD, NUMBER_TEST,
                "(" + NUMBER_TEST + " && number != 1000000000000L)");
        more.edge("the greatest number has more than twelve", () -> refusedField(12, Long.MAX_VALUE, 12), FIELD,
                NUMBER_TEST, "(" + NUMBER_TEST + " && number != Long.MAX_VALUE)");
        more.edge("2 to the 32nd is not 0", () -> refusedField(12, 1L << 32, 1), FIELD, NUMBER_TEST,
                "digitsOf((int) number) > digits");
        more.edge("-1 is below 0", () -> refusedField(12, -1, 1), FIELD, "number < 0", "number < -1");
        more.edge("the least number is below 0", () -> refusedField(12, Long.MIN_VALUE, 12), FIELD, DIGITS_TEST,
                "if (number == Long.MIN_VALUE) { return 1; } " + DIGITS_TEST);
    }

    private static void letDigits(Edges all) {
        Edges.Sentence fixed = all.sentence(5, "it is FIXED (its fields have just so many digits)");
        fixed.edge("one digit fewer", () -> {
            ScanCodes x = Edges.fixed(0, 21, 3);
            Due.refused("two digits", Due.ARGUMENT, () -> x.field(21, 7, 2));
        }, LETS, "digits == length", "digits <= length");
        fixed.edge("one digit more", () -> {
            ScanCodes x = Edges.fixed(0, 21, 3);
            Due.refused("four digits", Due.ARGUMENT, () -> x.field(21, 7, 4));
        }, LETS, "digits == length", "digits >= length");
        fixed.edge("just so many", () -> {
            ScanCodes x = Edges.fixed(0, 21, 3);
            Due.is("three digits", 1, () -> x.field(21, 7, 3));
        }, LETS, "digits == length", "digits == length - 1");
        Edges.Sentence loose = all.sentence(5, "or not (1 .. so many)");
        loose.edge("one digit", () -> takenField(4, 7, 1), LETS, ": digits <= length",
                ": digits > 1 && digits <= length");
        loose.edge("so many", () -> takenField(4, 7, 4), LETS, ": digits <= length", ": digits < length");
        loose.edge("one digit more", () -> refusedField(4, 7, 5), LETS, ": digits <= length",
                ": digits <= length + 1");
        loose.edge("one digit more than one", () -> refusedField(1, 7, 2), LETS, ": digits <= length",
                ": digits <= Math.max(2, length)");
    }

    private static void sixFields(Edges all) {
        Edges.Sentence s = all.sentence(5, "IllegalStateException: the label has this prefix, or six");
        s.edge("the sixth is written", () -> {
            ScanCodes x = twelves(0);
            for (int i = 1; i <= 6; i++) {
                int n = i;
                Due.is("field " + n, n, () -> x.field(29 + n, 1, 1));
            }
        }, FIELD, "written.size() >= MAX_FIELDS", "written.size() >= 5");
        s.edge("a seventh is not", () -> {
            ScanCodes x = twelves(0);
            sixWritten(x);
            Due.refused("the seventh", Due.STATE, () -> x.field(36, 1, 1));
            Due.is("count(1)", 6, () -> x.count(1));
        }, FIELD, "written.size() >= MAX_FIELDS", "written.size() > MAX_FIELDS");
        s.edge("the prefix of the field before", () -> {
            ScanCodes x = twelves(0);
            x.field(30, 1, 1);
            Due.refused("the same", Due.STATE, () -> x.field(30, 1, 1));
            Due.refused("another number", Due.STATE, () -> x.field(30, 2, 2));
        }, FIELD, "written.has(prefix) ||", "");
        s.edge("the prefix of the first of five", () -> {
            ScanCodes x = twelves(0);
            for (int prefix = 30; prefix < 35; prefix++) {
                x.field(prefix, 1, 1);
            }
            Due.refused("the first again", Due.STATE, () -> x.field(30, 1, 1));
            Due.refused("the fifth again", Due.STATE, () -> x.field(34, 1, 1));
        }, FIELD, "written.has(prefix)", "(written.has(prefix) && written.prefixAt(0) != prefix)");
        s.edge("a prefix told anew is there yet", () -> {
            ScanCodes x = twelves(0);
            x.field(30, 1, 1);
            x.prefix(30, 2, true, 3);
            Due.refused("told anew", Due.STATE, () -> x.field(30, 1, 2));
        }, FIELD, "written.has(prefix)", "(written.has(prefix) && !prefixes.isFixed(prefix))");
    }

    private static void fieldOrder(Edges all) {
        Edges.Sentence s = all.sentence(5, "REFUSALS, the first that holds");
        s.edge("a prefix that there is not comes before a number outside its range", () -> {
            ScanCodes x = twelves(0);
            Due.refused("number -1", Due.NO_SUCH, () -> x.field(40, -1, 1));
            Due.refused("0 digits", Due.NO_SUCH, () -> x.field(40, 1, 0));
            Due.refused("prefix 9, 13 digits", Due.NO_SUCH, () -> x.field(9, 1, 13));
        }, FIELD, FIRST_TEST, "if (digits < 1 || digits > MAX_DIGITS || number < 0) "
                + "{ throw new IllegalArgumentException(); } " + FIRST_TEST);
        s.edge("a prefix that there is not comes before six", () -> {
            ScanCodes x = twelves(0);
            sixWritten(x);
            Due.refused("an unknown seventh", Due.NO_SUCH, () -> x.field(40, 1, 1));
        }, FIELD, FIRST_TEST, STATE_TEST + FIRST_TEST);
        s.edge("a number outside its range comes before the same prefix", () -> {
            ScanCodes x = twelves(0);
            x.field(30, 1, 1);
            Due.refused("number -1", Due.ARGUMENT, () -> x.field(30, -1, 1));
            Due.refused("13 digits", Due.ARGUMENT, () -> x.field(30, 1, 13));
        }, FIELD, DIGITS_TEST, "if (written.has(prefix)) { throw new IllegalStateException(); } " + DIGITS_TEST);
        s.edge("a number outside its range comes before six", () -> {
            ScanCodes x = twelves(0);
            sixWritten(x);
            Due.refused("two digits in one", Due.ARGUMENT, () -> x.field(36, 10, 1));
        }, FIELD, DIGITS_TEST, "if (written.size() >= MAX_FIELDS) { throw new IllegalStateException(); } "
                + DIGITS_TEST);
        s.edge("digits that the prefix does not let come before six", () -> {
            ScanCodes x = twelves(0);
            sixWritten(x);
            x.prefix(36, 2, true, -1);
            Due.refused("one digit of two", Due.ARGUMENT, () -> x.field(36, 1, 1));
        }, FIELD, "if (!prefixes.lets(prefix, digits))", STATE_TEST + "if (!prefixes.lets(prefix, digits))");
    }

    private static void fieldRefused(Edges all) {
        Edges.Sentence range = all.sentence(5, "or the prefix does not let so many");
        range.edge("a refused call writes nothing", () -> {
            ScanCodes x = Edges.fixed(0, 21, 3);
            Due.refused("two digits", Due.ARGUMENT, () -> x.field(21, 7, 2));
            Due.is("count(1)", 0, () -> x.count(1));
            Due.is("then rightly", 1, () -> x.field(21, 7, 3));
        }, FIELD, "throw new IllegalArgumentException(\"the prefix",
                "written.add(prefix, digits, number); throw new IllegalArgumentException(\"the prefix");
        Edges.Sentence state = all.sentence(5, "IllegalStateException: the label has this prefix, or six");
        state.edge("a refused call leaves the label", () -> {
            ScanCodes x = twelves(0);
            x.field(30, 5, 1);
            Due.refused("30 again", Due.STATE, () -> x.field(30, 6, 2));
            Due.is("make()", 16, () -> x.make());
            // 30 5 6: 3 * 5 + 0 + 3 * 3 = 24.
            Due.compare("30 5 6", "0011" + "0000" + "0101" + "0110", Due.modules(x));
        }, FIELD, "throw new IllegalStateException(",
                "written.empty(); written.add(prefix, digits, number); throw new IllegalStateException(");
    }

    private static void noFields(Edges all) {
        Edges.Sentence s = all.sentence(6, "IllegalStateException: no fields");
        s.edge("a new object", () -> {
            ScanCodes x = twelves(0);
            Due.refused("make()", Due.STATE, () -> x.make());
            Due.is("count(2)", 0, () -> x.count(2));
        }, MAKE, "written.size() == 0", "written.size() < 0");
        s.edge("begun anew behind a label that was made", () -> {
            ScanCodes x = twelves(0);
            x.field(30, 1, 1);
            x.make();
            x.begin();
            Due.refused("make()", Due.STATE, () -> x.make());
            Due.is("the label made before stays", 16, () -> x.count(2));
        }, MAKE, "written.size() == 0", "written.size() == 0 && made.size() == 0");
        Edges.Sentence fields = all.sentence(6, "A LABEL is one to six fields of different prefixes");
        fields.edge("one field", () -> {
            ScanCodes x = twelves(1);
            x.field(30, 1, 1);
            Due.is("four signs", 28, () -> x.make());
        }, MAKE, "written.size() == 0", "written.size() <= 1");
        fields.edge("six fields", () -> {
            ScanCodes x = twelves(1);
            sixWritten(x);
            Due.is("24 signs", 24 * 7, () -> x.make());
        }, MAKE, "written.size() == 0", "written.size() == 0 || written.size() == 6");
    }

    /** Three fields of fifteen signs, one of so many digits and its separator, and one of four signs: 52 and these. */
    private static ScanCodes longLabel(int form, int digits) {
        ScanCodes x = twelves(form);
        for (int prefix = 30; prefix < 33; prefix++) {
            x.field(prefix, 999999999999L, 12);
        }
        x.field(33, 1, digits);
        x.field(34, 1, 1);
        return x;
    }

    private static void sixtySigns(Edges all) {
        Edges.Sentence s = all.sentence(6, "UnsupportedOperationException: it has more than 60 signs");
        s.edge("60 signs can be made", () -> {
            Due.is("form 0", 240, () -> longLabel(0, 8).make());
            Due.is("form 1", 420, () -> longLabel(1, 8).make());
            Due.is("form 2", 420, () -> longLabel(2, 8).make());
        }, MAKE, "signs.size() + 1 > MAX_SIGNS", "signs.size() + 2 > MAX_SIGNS");
        s.edge("61 can not", () -> {
            for (int form = 0; form < 3; form++) {
                ScanCodes x = longLabel(form, 9);
                Due.refused("form " + form, Due.NO_ROOM, () -> x.make());
            }
        }, MAKE, "signs.size() + 1 > MAX_SIGNS", "signs.size() > MAX_SIGNS");
        s.edge("90, the most that can be written, can not", () -> {
            ScanCodes x = twelves(0);
            for (int prefix = 30; prefix < 36; prefix++) {
                x.field(prefix, 999999999999L, 12);
            }
            Due.refused("make()", Due.NO_ROOM, () -> x.make());
        }, MAKE, "signs.size() + 1 > MAX_SIGNS", "signs.size() + 1 > MAX_SIGNS && signs.size() < 70");
        s.edge("a refused call leaves the label made last", () -> {
            ScanCodes x = twelves(0);
            x.field(30, 1, 1);
            x.make();
            String before = Due.modules(x);
            x.begin();
            for (int prefix = 30; prefix < 36; prefix++) {
                x.field(prefix, 999999999999L, 12);
            }
            Due.refused("make()", Due.NO_ROOM, () -> x.make());
            Due.is("count(2)", 16, () -> x.count(2));
            Due.compare("its modules", before, Due.modules(x));
        }, MAKE, "throw new UnsupportedOperationException(",
                "made.empty(); throw new UnsupportedOperationException(");
        s.edge("a refused call leaves what is written", () -> {
            ScanCodes x = longLabel(0, 9);
            Due.refused("make()", Due.NO_ROOM, () -> x.make());
            Due.is("count(1)", 5, () -> x.count(1));
            x.prefix(33, 9, true, -1);
            Due.is("a separator less makes it fit", 240, () -> x.make());
        }, MAKE, "throw new UnsupportedOperationException(",
                "written.empty(); throw new UnsupportedOperationException(");
    }

    private static void separators(Edges all) {
        Edges.Sentence last = all.sentence(6, "if its prefix is not fixed and it is not the last one, a separator");
        last.edge("the last field has none", () -> {
            ScanCodes x = twelves(0);
            x.field(30, 5, 1);
            x.make();
            Due.compare("30 5 6", "0011" + "0000" + "0101" + "0110", Due.modules(x));
        }, WRITE, "i < last &&", "");
        last.edge("the last but one has one", () -> {
            ScanCodes x = twelves(0);
            x.field(30, 5, 1);
            x.field(31, 5, 1);
            x.make();
            // 3 * 5 + 1 + 3 * 3 + 10 + 3 * 5 + 0 + 3 * 3 = 59.
            Due.compare("30 5 / 31 5 1", "0011" + "0000" + "0101" + "1010" + "0011" + "0001" + "0101" + "0001",
                    Due.modules(x));
        }, WRITE, "i < last &&", "i < last - 1 &&");
        last.edge("a fixed one has none", () -> {
            ScanCodes x = Edges.with(twelves(0), true, 21, 1);
            x.field(21, 5, 1);
            x.field(30, 5, 1);
            Due.is("seven signs", 28, () -> x.make());
        }, WRITE, "!prefixes.isFixed(prefix)", "prefix > 0");
        Edges.Sentence now = all.sentence(6, "by what its prefixes are now: fixed or not");
        now.edge("fixed since it was written", () -> {
            ScanCodes x = twelves(0);
            x.field(30, 5, 1);
            x.field(31, 5, 1);
            x.prefix(30, 4, true, -1);
            Due.is("no separator", 28, () -> x.make());
        }, WRITE, "!prefixes.isFixed(prefix)", "!prefixes.lets(prefix, written.digitsAt(i) + 1)");
        now.edge("not fixed since it was written", () -> {
            ScanCodes x = Edges.fixed(0, 30, 1, 31, 1);
            x.field(30, 5, 1);
            x.field(31, 5, 1);
            Due.is("no separator", 28, () -> x.make());
            x.prefix(30, 1, false, -1);
            Due.is("a separator", 32, () -> x.make());
        }, WRITE, "!prefixes.isFixed(prefix)", "prefixes.lengthOf(prefix) > written.digitsAt(i)");
        now.edge("shorter since it was written: its digits stay", () -> {
            ScanCodes x = twelves(0);
            x.field(30, 123, 3);
            x.prefix(30, 1, false, -1);
            Due.is("six signs", 24, () -> x.make());
        }, WRITE, "written.digitsAt(i)", "Math.min(written.digitsAt(i), prefixes.lengthOf(prefix))");
    }

    private static void checkSigns(Edges all) {
        Edges.Sentence s = all.sentence(6, "and so on, and it are a multiple of 10 (a separator counts as 10)");
        s.edge("0 where the others are a multiple of 10", () -> {
            ScanCodes x = twelves(0);
            x.field(30, 7, 1);
            x.make();
            // 3 * 7 + 0 + 3 * 3 = 30.
            Due.compare("30 7 0", "0011" + "0000" + "0111" + "0000", Due.modules(x));
        }, "int checkSign(", "Math.floorMod(-sum, 10)", "10 - sum % 10");
        s.edge("9 where the others are one more", () -> {
            ScanCodes x = twelves(0);
            x.field(32, 0, 1);
            x.make();
            // 3 * 0 + 2 + 3 * 3 = 11.
            Due.compare("32 0 9", "0011" + "0010" + "0000" + "1001", Due.modules(x));
        }, "int checkSign(", "Math.floorMod(-sum, 10)", "Math.floorMod(-sum, 10) % 9");
    }

    private static void fourBits(Edges all) {
        Edges.Sentence s = all.sentence(6, "FORM 0: a sign is its four bits, the greatest first, as MODULES 0 or 1");
        s.edge("0 and 9, the least and the greatest digit", () -> {
            ScanCodes x = Edges.fixed(0, 90, 2);
            x.field(90, 90, 2);
            x.make();
            // 3 * 0 + 9 + 3 * 0 + 9 = 18.
            Due.compare("90 90 2", "1001" + "0000" + "1001" + "0000" + "0010", Due.modules(x));
        }, WORD, "if (form == 0) { return sign; }", "if (form == 0) { return sign % 9; }");
        s.edge("10, the separator", () -> {
            ScanCodes x = twelves(0);
            x.field(30, 1, 1);
            x.field(31, 1, 1);
            x.make();
            Due.compare("the separator", "1010", Due.modules(x).substring(12, 16));
        }, WORD, "if (form == 0) { return sign; }", "if (form == 0) { return sign == 10 ? 15 : sign; }");
        s.edge("8 and 1, the greatest and the least bit", () -> {
            ScanCodes x = Edges.fixed(0, 81, 1);
            x.field(81, 8, 1);
            x.make();
            // 3 * 8 + 1 + 3 * 8 = 49.
            Due.compare("81 8 1", "1000" + "0001" + "1000" + "0001", Due.modules(x));
        }, "void encode(", "(width - 1 - k)", "(width == 4 ? k : width - 1 - k)");
    }

    /** The modules of one digit that is written as the third sign, in form 1. */
    private static void hasWord(int digit, String word) {
        ScanCodes x = twelves(1);
        x.field(30, digit, 1);
        x.make();
        Due.compare("the modules of " + digit, word, Due.modules(x).substring(14, 21));
    }

    private static void restsByTwo(Edges all) {
        Edges.Sentence s = all.sentence(6,
                "then a + b + d, a + c + d, b + c + d, of each of these the rest by two");
        s.edge("a + d are 2 in the first and the second", () -> hasWord(9, "1001001"), WORD, "(a ^ b ^ d) << 2",
                "(a + d == 2 ? 1 : a ^ b ^ d) << 2");
        s.edge("b + d are 2 in the first", () -> hasWord(5, "0101010"), WORD, "(a ^ b ^ d)", "(a | b | d)");
        s.edge("c + d are 2 in the second", () -> hasWord(3, "0011100"), WORD, "(a ^ c ^ d)", "(a | c | d)");
        s.edge("b + c are 2 in the third", () -> hasWord(6, "0110110"), WORD, "(b ^ c ^ d)", "(b | c | d)");
        s.edge("b + c + d are 3 in the third", () -> hasWord(7, "0111001"), WORD, "(b ^ c ^ d)",
                "(b + c + d == 1 ? 1 : 0)");
        s.edge("all are 0", () -> hasWord(0, "0000000"), WORD, "return sign << 3", "return sign == 0 ? 1 : sign << 3");
        s.edge("a + c are 2 in a separator", () -> {
            ScanCodes x = twelves(1);
            x.field(30, 1, 1);
            x.field(31, 1, 1);
            x.make();
            Due.compare("the separator", "1010101", Due.modules(x).substring(21, 28));
        }, WORD, "(a ^ c ^ d)", "(a + c == 2 ? 1 : a ^ c ^ d)");
    }

    private static void woven(Edges all) {
        Edges.Sentence s = all.sentence(6,
                "FORM 2: as form 1, but first the first modules of all signs, then all second ones, and so on");
        s.edge("from the first of the first sign to the seventh of the last", () -> {
            ScanCodes x = Edges.fixed(2, 91, 1);
            x.field(91, 5, 1);
            x.make();
            // 91 5 7: 3 * 5 + 1 + 3 * 9 = 43; the words 1001001, 0001111, 0101010, 0111001.
            Due.compare("91 5 7", "1000" + "0011" + "0001" + "1111" + "0100" + "0110" + "1101", Due.modules(x));
        }, "int placeOf(int s", "form == MAX_FORM", "form > MAX_FORM");
    }

    private static void noModule(Edges all) {
        Edges.Sentence s = all.sentence(7, "ArrayIndexOutOfBoundsException (the machine's own): there is none");
        s.edge("before any label was made", () -> {
            ScanCodes x = twelves(0);
            x.field(30, 1, 1);
            Due.refused("module(0)", Due.INDEX, () -> x.module(0));
            Due.refused("module(-1)", Due.INDEX, () -> x.module(-1));
        }, MODULE, "if (i < 0", "if (made.size() == 0) { return 0; } if (i < 0");
        s.edge("-1", () -> noModuleAt(-1), MODULE, "i < 0", "i < -1");
        s.edge("the least number", () -> noModuleAt(Integer.MIN_VALUE), MODULE, "i < 0", "i == -1");
        s.edge("the first is there", () -> {
            ScanCodes x = madeNine();
            Due.is("module(0)", 1, () -> x.module(0));
        }, MODULE, "i < 0", "i <= 0");
        s.edge("the last is there", () -> {
            ScanCodes x = madeNine();
            Due.is("module(15)", 1, () -> x.module(15));
        }, MODULE, "i >= made.size()", "i >= made.size() - 1");
        s.edge("one behind the last", () -> noModuleAt(16), MODULE, "i >= made.size()", "i > made.size()");
        s.edge("the greatest number", () -> noModuleAt(Integer.MAX_VALUE), MODULE, "i >= made.size()",
                "i == made.size()");
        s.edge("behind 420, the most there are", () -> {
            ScanCodes x = longLabel(1, 8);
            x.make();
            // Its check sign is 5: 0101010.
            Due.is("module(419)", 0, () -> x.module(419));
            Due.refused("module(420)", Due.INDEX, () -> x.module(420));
        }, MODULE, "i >= made.size()", "i >= Math.max(made.size(), 421 * (made.size() / 420))");
    }

    /** 90 0 and its check sign 3 as sixteen modules: the first and the last one are 1. */
    private static ScanCodes madeNine() {
        ScanCodes x = Edges.fixed(0, 90, 1);
        x.field(90, 0, 1);
        x.make();
        return x;
    }

    private static void noModuleAt(int i) {
        ScanCodes x = madeNine();
        Due.refused("module(" + i + ")", Due.INDEX, () -> x.module(i));
    }

    private static void madeLast(Edges all) {
        Edges.Sentence s = all.sentence(7, "Module i of the label that was made last");
        s.edge("a shorter one leaves nothing of a longer one", () -> {
            ScanCodes x = Edges.with(longLabel(0, 8), true, 90, 1);
            x.make();
            x.begin();
            x.field(90, 0, 1);
            Due.is("make()", 16, () -> x.make());
            Due.refused("module(16)", Due.INDEX, () -> x.module(16));
        }, "void encode(", "modules.zeros(length * width);",
                "modules.zeros(Math.max(modules.size(), length * width));");
        s.edge("a field written since is not in it", () -> {
            ScanCodes x = Edges.fixed(0, 90, 1, 91, 1);
            x.field(90, 0, 1);
            x.make();
            x.field(91, 0, 1);
            Due.refused("module(16)", Due.INDEX, () -> x.module(16));
            Due.is("made anew", 28, () -> x.make());
            Due.is("module(16)", 0, () -> x.module(16));
        }, MODULE, "if (i < 0 || i >= made.size())", "if (i < 0 || i >= made.size() + 12 * (written.size() - 1))");
        s.edge("what is read since is not in it", () -> {
            ScanCodes x = madeNine();
            for (int i = 0; i < 16; i++) {
                x.read(0);
            }
            Due.is("parse()", -4, () -> x.parse());
            Due.compare("the modules", "1001" + "0000" + "0000" + "0011", Due.modules(x));
        }, "public int parse()", "taker.forget();", "taker.forget(); made.zeros(made.size());");
    }
}
