/** Boundary cases of promises 8 (clear), 9 (read), 11 (parse) and 16 (mended). */
final class ReadEdges {
    private static final String CLEAR = "public void clear()";
    private static final String READ = "public int read(";
    private static final String PARSE = "public int parse()";
    private static final String DECODE = "boolean decode(";
    private static final String DECODE_SIGN = "int decodeSign(";
    private static final String MEND = "private int mend(";
    private static final String NEAR = "2 * otherwise + gone <= MENDABLE";
    private static final String WHOLE = "length * width != modules.size()";
    private static final String NO_SIGN = "sign < 0 || sign > SEPARATOR";
    /** 16 9 4 in seven modules a sign. */
    private static final String SEVEN = "0001111 0110110 1001001 0100101";
    private static final String PLAIN = "0001 0110 1001 0100";

    private ReadEdges() {
    }

    static void addTo(Edges all) {
        clearsNothing(all);
        clears(all);
        clearLeaves(all);
        readRange(all);
        readRoom(all);
        nothingRead(all);
        wholeSigns(all);
        plainSigns(all);
        nearSigns(all);
        signsAboveTen(all);
        longest(all);
        afterParse(all);
        mendedNothing(all);
        mendedCounts(all);
        mendedUpToFirst(all);
        mendedLast(all);
    }

    private static ScanCodes sixteen(int form) {
        return Edges.fixed(form, 16, 1);
    }

    /** Modules of four signs in seven as form 2 weaves them. */
    private static String woven(String seven) {
        String[] words = seven.split(" ");
        StringBuilder all = new StringBuilder();
        for (int k = 0; k < 7; k++) {
            for (String word : words) {
                all.append(word.charAt(k));
            }
        }
        return all.toString();
    }

    /** Reads words in forms 1 and 2: what parse() and mended() are due to answer. */
    private static void reads(String seven, int parsed, int mended) {
        ScanCodes one = sixteen(1);
        Due.is("form 1: " + seven, parsed, () -> Due.readApart(one, seven));
        Due.is("form 1, mended: " + seven, mended, () -> one.mended());
        ScanCodes two = sixteen(2);
        Due.is("form 2: " + seven, parsed, () -> Due.readApart(two, woven(seven)));
        Due.is("form 2, mended: " + seven, mended, () -> two.mended());
        if (parsed == 1) {
            Due.is("form 1, number: " + seven, 9, () -> one.value(0));
            Due.is("form 2, number: " + seven, 9, () -> two.value(0));
        }
    }

    private static void clearsNothing(Edges all) {
        Edges.Sentence s = all.sentence(8, "What was read is forgotten (also what was typed, taken apart, mended)");
        s.edge("where nothing was", () -> {
            ScanCodes x = sixteen(1);
            x.clear();
            x.clear();
            Due.is("count(3)", 0, () -> x.count(3));
            Due.is("the first module", 1, () -> x.read(0));
        }, CLEAR, "modulesRead.empty();",
                "if (modulesRead.size() == 0) { throw new IllegalStateException(); } modulesRead.empty();");
    }

    private static void clears(Edges all) {
        Edges.Sentence s = all.sentence(8, "What was read is forgotten (also what was typed, taken apart, mended)");
        s.edge("420 modules, and there is room again", () -> {
            ScanCodes x = sixteen(1);
            for (int i = 0; i < 420; i++) {
                x.read(0);
            }
            x.clear();
            Due.is("count(3)", 0, () -> x.count(3));
            Due.refused("parse()", Due.STATE, () -> x.parse());
            Due.is("the first again", 1, () -> x.read(0));
        }, CLEAR, "modulesRead.empty();", "");
        s.edge("60 signs, and there is room again", () -> {
            ScanCodes x = sixteen(1);
            for (int i = 0; i < 60; i++) {
                x.typed(0);
            }
            x.clear();
            Due.is("count(4)", 0, () -> x.count(4));
            Due.refused("check()", Due.STATE, () -> x.check());
            Due.refused("parseTyped()", Due.STATE, () -> x.parseTyped());
            Due.is("the first again", 1, () -> x.typed(0));
        }, CLEAR, "signsTyped.empty();", "");
        s.edge("what was taken apart", () -> {
            ScanCodes x = sixteen(1);
            Due.readApart(x, SEVEN);
            x.clear();
            Due.is("count(5)", 0, () -> x.count(5));
            Due.refused("known(0, 0)", Due.NO_SUCH, () -> x.known(0, 0));
            Due.refused("value(0)", Due.NO_SUCH, () -> x.value(0));
            Due.refused("scan(0, 0)", Due.STATE, () -> x.scan(0, 0));
        }, CLEAR, "taker.forget();", "");
        s.edge("the prefix that was not known", () -> {
            ScanCodes x = sixteen(1);
            Due.apart(x, "261");
            x.clear();
            Due.is("hint(0)", -1, () -> x.hint(0));
        }, CLEAR, "taker.forget();", "taker.fields().empty();");
        s.edge("what was mended", () -> {
            ScanCodes x = sixteen(1);
            Due.readApart(x, "??01111 0110110 1001001 0100101");
            x.clear();
            Due.is("mended()", 0, () -> x.mended());
        }, CLEAR, "mendedModules = 0;", "");
    }

    private static void clearLeaves(Edges all) {
        Edges.Sentence s = all.sentence(8, "What was read is forgotten");
        s.edge("not the prefixes", () -> {
            ScanCodes x = sixteen(1);
            x.clear();
            Due.is("count(0)", 1, () -> x.count(0));
            Due.is("16 9", 1, () -> Due.apart(x, "169"));
        }, CLEAR, "modulesRead.empty();", "modulesRead.empty(); prefixes.size = 0;");
        s.edge("not the label that is written", () -> {
            ScanCodes x = sixteen(1);
            x.field(16, 9, 1);
            x.clear();
            Due.is("make()", 28, () -> x.make());
        }, CLEAR, "modulesRead.empty();", "modulesRead.empty(); written.empty();");
        s.edge("not the label that was made", () -> {
            ScanCodes x = sixteen(1);
            x.field(16, 9, 1);
            x.make();
            x.clear();
            Due.is("count(2)", 28, () -> x.count(2));
            Due.is("module(27)", 1, () -> x.module(27));
        }, CLEAR, "modulesRead.empty();", "modulesRead.empty(); made.empty();");
        s.edge("not the labels that were scanned", () -> {
            ScanCodes x = sixteen(1);
            Due.apart(x, "169");
            x.scan(0, 5);
            Due.apart(x, "169");
            Due.is("count(6)", 1, () -> x.count(6));
            Due.is("scanned again", 0, () -> x.scan(0, 5));
        }, CLEAR, "modulesRead.empty();", "modulesRead.empty(); scans.size = 0; Arrays.fill(scans.seconds, NEVER);");
        s.edge("not the second of the last scan", () -> {
            ScanCodes x = sixteen(1);
            Due.apart(x, "169");
            x.scan(0, 5);
            Due.apart(x, "169");
            Due.refused("a second before it", Due.ARGUMENT, () -> x.scan(1, 4));
        }, CLEAR, "modulesRead.empty();", "modulesRead.empty(); lastSecond = 0;");
    }

    private static void readRange(Edges all) {
        Edges.Sentence s = all.sentence(9, "A module is read: 0, 1, or 2 if it is erased: how many were");
        s.edge("-1 is too small", () -> refusedModule(-1), READ, "value < 0", "value < -1");
        s.edge("the least number is too small", () -> refusedModule(Integer.MIN_VALUE), READ, "value < 0",
                "value == -1");
        s.edge("0 is read", () -> takenModule(0), READ, "value < 0", "value <= 0");
        s.edge("2 is read", () -> takenModule(2), READ, "value > ERASED", "value >= ERASED");
        s.edge("3 is too large", () -> refusedModule(3), READ, "value > ERASED", "value > 3");
        s.edge("the greatest number is too large", () -> refusedModule(Integer.MAX_VALUE), READ, "value > ERASED",
                "value == 3");
        s.edge("a refused call is not counted", () -> {
            ScanCodes x = sixteen(0);
            x.read(1);
            Due.refused("read(3)", Due.ARGUMENT, () -> x.read(3));
            Due.refused("read(-1)", Due.ARGUMENT, () -> x.read(-1));
            Due.is("the second", 2, () -> x.read(1));
        }, READ, "throw new IllegalArgumentException(", "modulesRead.add(0); throw new IllegalArgumentException(");
    }

    private static void refusedModule(int value) {
        ScanCodes x = sixteen(0);
        Due.refused("read(" + value + ")", Due.ARGUMENT, () -> x.read(value));
    }

    private static void takenModule(int value) {
        ScanCodes x = sixteen(0);
        Due.is("read(" + value + ")", 1, () -> x.read(value));
        Due.is("again", 2, () -> x.read(value));
    }

    private static ScanCodes full() {
        ScanCodes x = sixteen(1);
        for (int i = 0; i < 420; i++) {
            x.read(0);
        }
        return x;
    }

    private static void readRoom(Edges all) {
        Edges.Sentence s = all.sentence(9, "UnsupportedOperationException: there are 420");
        s.edge("the 420th is read", () -> {
            ScanCodes x = sixteen(1);
            for (int i = 1; i <= 420; i++) {
                int n = i;
                Due.is("module " + n, n, () -> x.read(n % 3));
            }
        }, READ, "modulesRead.isFull()", "modulesRead.size() >= 419");
        s.edge("the 421st is not", () -> {
            ScanCodes x = full();
            Due.refused("the 421st", Due.NO_ROOM, () -> x.read(0));
            Due.refused("an erased one", Due.NO_ROOM, () -> x.read(2));
            Due.is("count(3)", 420, () -> x.count(3));
        }, READ, "modulesRead.isFull()", "modulesRead.size() > MAX_MODULES");
        s.edge("as many in form 0", () -> {
            ScanCodes x = sixteen(0);
            for (int i = 0; i < 420; i++) {
                x.read(0);
            }
            Due.is("count(3)", 420, () -> x.count(3));
            Due.refused("the 421st", Due.NO_ROOM, () -> x.read(0));
        }, READ, "modulesRead.isFull()", "modulesRead.isFull() || (coder.form() == 0 && modulesRead.size() >= 240)");
        s.edge("a refused call leaves what was read", () -> {
            ScanCodes x = full();
            Due.refused("the 421st", Due.NO_ROOM, () -> x.read(1));
            // All signs are 0: the check sign is right, and 00 is no prefix.
            Due.is("parse()", -4, () -> x.parse());
        }, READ, "throw new UnsupportedOperationException(",
                "modulesRead.put(419, value); modulesRead.put(418, 1); throw new UnsupportedOperationException(");
        Edges.Sentence first = all.sentence(9, "REFUSALS, the first that holds");
        first.edge("a number outside its range comes before no room", () -> {
            ScanCodes x = full();
            Due.refused("read(3)", Due.ARGUMENT, () -> x.read(3));
            Due.refused("read(-1)", Due.ARGUMENT, () -> x.read(-1));
        }, READ, "if (value < 0",
                "if (modulesRead.isFull()) { throw new UnsupportedOperationException(); } if (value < 0");
    }

    private static void nothingRead(Edges all) {
        Edges.Sentence s = all.sentence(11, "IllegalStateException: nothing was read");
        s.edge("a new object", () -> {
            ScanCodes x = sixteen(1);
            Due.refused("parse()", Due.STATE, () -> x.parse());
        }, PARSE, "modulesRead.size() == 0", "modulesRead.size() < 0");
        s.edge("only typed", () -> {
            ScanCodes x = sixteen(1);
            Due.type(x, "1694");
            Due.refused("parse()", Due.STATE, () -> x.parse());
        }, PARSE, "modulesRead.size() == 0", "modulesRead.size() == 0 && signsTyped.size() == 0");
        s.edge("cleared", () -> {
            ScanCodes x = sixteen(1);
            Due.readApart(x, SEVEN);
            x.clear();
            Due.refused("parse()", Due.STATE, () -> x.parse());
        }, CLEAR, "modulesRead.empty();", "modulesRead.zeros(Math.min(7, modulesRead.size()));");
        s.edge("one module is something", () -> {
            ScanCodes x = sixteen(1);
            x.read(0);
            Due.is("parse()", 0, () -> x.parse());
        }, PARSE, "modulesRead.size() == 0", "modulesRead.size() <= 1");
        s.edge("a refused call leaves what was taken apart", () -> {
            ScanCodes x = sixteen(1);
            Due.apart(x, "169");
            Due.refused("parse()", Due.STATE, () -> x.parse());
            Due.is("count(5)", 1, () -> x.count(5));
            Due.is("value(0)", 9, () -> x.value(0));
        }, PARSE, "throw new IllegalStateException(", "taker.forget(); throw new IllegalStateException(");
    }

    private static void wholeSigns(Edges all) {
        Edges.Sentence s = all.sentence(11, "0 if the modules are not a number of whole signs");
        s.edge("one module more, form 0", () -> {
            ScanCodes x = sixteen(0);
            Due.is("17 modules", 0, () -> Due.readApart(x, PLAIN + "0"));
        }, DECODE, WHOLE, WHOLE + " && form != 0");
        s.edge("one module less, form 0", () -> {
            ScanCodes x = sixteen(0);
            Due.is("15 modules", 0, () -> Due.readApart(x, "0001 0110 1001 010"));
            Due.is("3 modules", 0, () -> Due.readApart(x, "000"));
        }, DECODE, WHOLE, WHOLE + " && modules.size() % width != 3");
        s.edge("one module more, form 1", () -> {
            ScanCodes x = sixteen(1);
            Due.is("29 modules", 0, () -> Due.readApart(x, SEVEN + "0"));
        }, DECODE, WHOLE, WHOLE + " && modules.size() % 7 != 1");
        s.edge("one module less, form 1", () -> {
            ScanCodes x = sixteen(1);
            Due.is("27 modules", 0, () -> Due.readApart(x, "0001111 0110110 1001001 010010"));
            Due.is("6 modules", 0, () -> Due.readApart(x, "000000"));
        }, DECODE, WHOLE, WHOLE + " && modules.size() % 7 != 6");
        s.edge("one module more, form 2", () -> {
            ScanCodes x = sixteen(2);
            Due.is("29 modules", 0, () -> Due.readApart(x, woven(SEVEN) + "0"));
        }, DECODE, WHOLE, WHOLE + " && form != 2");
        s.edge("one sign is whole", () -> {
            ScanCodes plain = sixteen(0);
            Due.is("4 modules", -1, () -> Due.readApart(plain, "0000"));
            ScanCodes seven = sixteen(1);
            Due.is("7 modules", -1, () -> Due.readApart(seven, "0000000"));
        }, DECODE, WHOLE, WHOLE + " || length < 2");
    }

    private static void plainSigns(Edges all) {
        Edges.Sentence s = all.sentence(11, "In form 0 a sign above 10 or an erased module can not be");
        s.edge("an erased module", () -> {
            Due.is("0001 0110 1001 0?00", 0, () -> Due.readApart(sixteen(0), "0001 0110 1001 0?00"));
            Due.is("?001 0110 1001 0100", 0, () -> Due.readApart(sixteen(0), "?001 0110 1001 0100"));
        }, DECODE_SIGN, "erased == 0 ? ones : NONE", "ones");
        s.edge("11", () -> Due.is("0001 0110 1011 0100", 0, () -> Due.readApart(sixteen(0), "0001 0110 1011 0100")),
                DECODE, NO_SIGN, "sign < 0 || sign > 11");
        s.edge("15", () -> Due.is("1111 0110 1001 0100", 0, () -> Due.readApart(sixteen(0), "1111 0110 1001 0100")),
                DECODE, NO_SIGN, NO_SIGN + " && sign < 15");
        s.edge("10 can be read", () -> {
            ScanCodes x = Edges.loose(0, 16, 1, 26, 1);
            // 16 9 / 26 1: 3 + 6 + 6 + 10 + 27 + 6 + 3 = 61.
            Due.is("16 9 / 26 1 9", 2, () -> Due.readApart(x, "0001 0110 1001 1010 0010 0110 0001 1001"));
        }, DECODE, NO_SIGN, "sign < 0 || sign > 9");
        s.edge("a wrong module is another sign", () -> {
            ScanCodes x = sixteen(0);
            Due.is("16 8 4", -2, () -> Due.readApart(x, "0001 0110 1000 0100"));
            Due.is("mended()", 0, () -> x.mended());
        }, DECODE_SIGN, "erased == 0 ? ones : NONE", "erased == 0 && ones != 8 ? ones : NONE");
    }

    private static void nearSigns(Edges all) {
        Edges.Sentence s = all.sentence(11, "twice the modules that are otherwise and those that are erased are "
                + "together no more than 2, if there is one");
        s.edge("nothing wrong", () -> reads(SEVEN, 1, 0), MEND, NEAR, NEAR + " && otherwise + gone > 0");
        s.edge("one otherwise", () -> reads("0001111 0010110 1001001 0100101", 1, 1), MEND, NEAR,
                "2 * otherwise + gone < (gone == 0 ? 2 : 3)");
        s.edge("one erased", () -> reads("0001111 0?10110 1001001 0100101", 1, 1), MEND, NEAR, NEAR + " && gone != 1");
        s.edge("two erased", () -> reads("0001111 0?1011? 1001001 0100101", 1, 2), MEND, NEAR,
                "2 * otherwise + gone <= (gone > 1 ? 1 : 2)");
        s.edge("one otherwise and one erased", () -> reads("0001111 0?10111 1001001 0100101", 0, 0), MEND, NEAR,
                "2 * otherwise + gone <= (otherwise == 1 && gone == 1 ? 3 : 2)");
        s.edge("three erased", () -> reads("0001111 0?1?11? 1001001 0100101", 0, 0), MEND, NEAR,
                "2 * otherwise + gone <= (gone == 3 ? 3 : 2)");
        s.edge("one otherwise and two erased", () -> reads("0001111 1?1011? 1001001 0100101", 0, 0), MEND, NEAR,
                "2 * otherwise + gone <= (otherwise == 1 && gone == 2 ? 4 : 2)");
        s.edge("seven erased", () -> reads("0001111 ??????? 1001001 0100101", 0, 0), MEND, NEAR,
                NEAR + " || gone == 7");
        // Two modules of 6 otherwise: 0101010 is one from it, so that 16 is read as 15.
        s.edge("two otherwise are another sign", () -> reads("0001111 0101110 1001001 0100101", -2, 1), MEND, NEAR,
                "otherwise + gone <= MENDABLE");
        s.edge("each sign for itself: one otherwise in all, two erased in all", () -> {
            reads("1001111 0010110 1011001 0101101", 1, 4);
            reads("??01111 01??110 1001??1 ?10010?", 1, 8);
        }, DECODE, "signs.add(sign);", "signs.add(sign); if (mended > 2) { return false; }");
        s.edge("the first module and the last one", () -> reads("1001111 0110111 100100? ?100101", 1, 4), DECODE_SIGN,
                "k = 0; k < width; k++", "k = 0; k < width - 1; k++");
    }

    private static void signsAboveTen(Edges all) {
        Edges.Sentence s = all.sentence(11, "a sign above 10, or none, can not be mended");
        s.edge("11, with nothing wrong", () -> reads("0001111 0110110 1011010 0100101", 0, 0), DECODE, NO_SIGN,
                "sign < 0 || sign > 11");
        s.edge("15, with nothing wrong", () -> reads("0001111 0110110 1111111 0100101", 0, 0), DECODE, NO_SIGN,
                NO_SIGN + " && sign < 15");
        s.edge("11, with one otherwise", () -> reads("0001111 0110110 1011011 0100101", 0, 0), MEND, "return sign;",
                "return sign > SEPARATOR && otherwise == 1 ? 9 : sign;");
        s.edge("10, with two erased", () -> {
            ScanCodes x = Edges.loose(1, 16, 1, 26, 1);
            // 16 9 / 26 1 9.
            Due.is("parse()", 2, () -> Due.readApart(x, "0001111 0110110 1001001 ?0101?1 0010011 0110110 0001111 "
                    + "1001001"));
            Due.is("mended()", 2, () -> x.mended());
        }, DECODE, NO_SIGN, "sign < 0 || sign > 9");
        s.edge("the first sign", () -> reads("???1111 0110110 1001001 0100101", 0, 0), DECODE, NO_SIGN,
                "(" + NO_SIGN + ") && s > 0");
        s.edge("the last sign", () -> reads("0001111 0110110 1001001 ???0101", 0, 0), DECODE, NO_SIGN,
                "(" + NO_SIGN + ") && s < length - 1");
    }

    /** The modules of form 0 of digits. */
    private static String plain(String digits) {
        StringBuilder all = new StringBuilder();
        for (char c : digits.toCharArray()) {
            all.append(Integer.toBinaryString(16 + c - '0').substring(1));
        }
        return all.toString();
    }

    private static void longest(Edges all) {
        Edges.Sentence s = all.sentence(11, "What was read is taken apart: the number of fields, or what is wrong");
        s.edge("420 modules of form 1 are 60 signs", () -> {
            // Two objects, as one is used for 512 calls at most.
            ScanCodes maker = Edges.loose(1, 30, 12, 31, 12, 32, 12, 33, 12);
            for (int prefix = 30; prefix < 34; prefix++) {
                maker.field(prefix, 999999999999L, 12);
            }
            Due.is("make()", 420, () -> maker.make());
            String modules = Due.modules(maker);
            ScanCodes x = Edges.loose(1, 30, 12, 31, 12, 32, 12, 33, 12);
            Due.is("parse()", 4, () -> Due.readApart(x, modules));
            Due.is("the last field", 999999999999L, () -> x.value(3));
        }, PARSE, "return whole ?", "return whole && signs.size() < 60 ?");
        // No sentence of taking apart refuses more signs than a label may be made with.
        s.edge("340 modules of form 0 are 85 signs, six fields", () -> {
            ScanCodes x = Edges.fixed(0, 20, 12, 21, 12, 22, 12, 23, 12, 24, 12, 25, 12);
            String zeros = "000000000000";
            String six = "20" + zeros + "21" + zeros + "22" + zeros + "23" + zeros + "24" + zeros + "25" + zeros;
            // 3 * (0 + 1 + 2 + 3 + 4 + 5) + 6 * 2, by where they stand: each 2 counts once, each other one thrice.
            Due.is("parse()", 6, () -> Due.readApart(x, plain(six + "3")));
        }, PARSE, "return whole ?", "return whole && signs.size() <= MAX_SIGNS ?");
        s.edge("420 modules of form 0 are 105 signs", () -> {
            ScanCodes x = Edges.fixed(0, 20, 12);
            // The first of 104 signs counts once: the check sign is 9.
            Due.is("10 is not known", -4, () -> Due.readApart(x, plain("1" + "0".repeat(103) + "9")));
            Due.is("a wrong check sign", -2, () -> Due.readApart(sixteen(0), plain("1" + "0".repeat(103) + "8")));
        }, "class ScanCodes", "MAX_READ_SIGNS = 105", "MAX_READ_SIGNS = 104");
    }

    private static void afterParse(Edges all) {
        Edges.Sentence s = all.sentence(11, "(0 if the modules are not a number of whole signs, or a sign can not be "
                + "mended)");
        s.edge("then nothing could be taken apart", () -> {
            ScanCodes x = sixteen(1);
            Due.readApart(x, SEVEN);
            x.read(0);
            Due.is("parse()", 0, () -> x.parse());
            Due.is("count(5)", 0, () -> x.count(5));
            Due.refused("known(0, 0)", Due.NO_SUCH, () -> x.known(0, 0));
            Due.refused("scan(0, 0)", Due.STATE, () -> x.scan(0, 0));
        }, PARSE, "taker.forget();", "");
        Edges.Sentence again = all.sentence(11, "What was read is taken apart");
        again.edge("and stays read: again, and with more", () -> {
            ScanCodes x = sixteen(1);
            Due.is("parse()", 1, () -> Due.readApart(x, SEVEN));
            Due.is("again", 1, () -> x.parse());
            Due.is("count(3)", 28, () -> x.count(3));
            Due.is("one more", 29, () -> x.read(0));
        }, PARSE, "mendedModules = coder.mendedLast();", "mendedModules = coder.mendedLast(); modulesRead.empty();");
    }

    private static void mendedNothing(Edges all) {
        Edges.Sentence s = all.sentence(16, "The modules that were mended by the last parse()");
        s.edge("none in a new object", () -> {
            ScanCodes x = sixteen(1);
            Due.is("mended()", 0, () -> x.mended());
        }, "public ScanCodes(int form)", "mendedModules = 0;", "mendedModules = -1;");
        s.edge("none before parse()", () -> {
            ScanCodes x = sixteen(1);
            Due.read(x, "??01111");
            Due.is("mended()", 0, () -> x.mended());
        }, "public int mended()", "return mendedModules;", "return mendedModules + (modulesRead.size() == 7 ? 2 : 0);");
        s.edge("none where the modules are not whole signs", () -> {
            ScanCodes x = sixteen(1);
            Due.readApart(x, "??01111 0110110 1001001 0100101");
            x.read(1);
            Due.is("parse()", 0, () -> x.parse());
            Due.is("mended()", 0, () -> x.mended());
        }, PARSE, "mendedModules = coder.mendedLast();",
                "mendedModules = modulesRead.size() % 7 == 0 ? coder.mendedLast() : mendedModules;");
        s.edge("none in form 0", () -> {
            ScanCodes x = sixteen(0);
            Due.readApart(x, "0001 0110 1001 010?");
            Due.is("mended()", 0, () -> x.mended());
        }, DECODE_SIGN, "return erased == 0", "mended += Integer.bitCount(erased); return erased == 0");
    }

    private static void mendedCounts(Edges all) {
        Edges.Sentence s = all.sentence(16, "those otherwise and those erased");
        s.edge("one otherwise is one", () -> reads("0001111 0010110 1001001 0100101", 1, 1), MEND,
                "mended += otherwise + gone", "mended += 2 * otherwise + gone");
        s.edge("two erased are two", () -> reads("0001111 0?1011? 1001001 0100101", 1, 2), MEND,
                "mended += otherwise + gone", "mended += otherwise + Math.min(gone, 1)");
        s.edge("two in each of sixty signs are 120", () -> {
            ScanCodes x = sixteen(1);
            for (int i = 0; i < 60; i++) {
                Due.read(x, "??00000");
            }
            Due.is("parse()", -4, () -> x.parse());
            Due.is("mended()", 120, () -> x.mended());
        }, MEND, "mended += otherwise + gone", "mended = Math.min(100, mended + otherwise + gone)");
        s.edge("also where the label is wrong", () -> {
            ScanCodes x = sixteen(1);
            Due.is("a wrong check sign", -2, () -> Due.readApart(x, "?001111 0110110 1001001 0101010"));
            Due.is("mended()", 1, () -> x.mended());
        }, PARSE, "return whole ? taker.takeApart(signs) : NOT_MENDED;",
                "int got = whole ? taker.takeApart(signs) : NOT_MENDED; if (got < 0) { mendedModules = 0; } "
                        + "return got;");
    }

    private static void mendedUpToFirst(Edges all) {
        Edges.Sentence s = all.sentence(16, "of all signs that could be mended up to the first that could not");
        s.edge("those before it count", () -> reads("??01111 0110111 ???1001 0100101", 0, 3), DECODE,
                "{ return false; } signs.add", "{ mended = 0; return false; } signs.add");
        s.edge("those behind it do not", () -> reads("0001111 0110110 ???1001 ?10010?", 0, 0), DECODE,
                "{ return false; } signs.add",
                "{ for (int r = s + 1; r < length; r++) { decodeSign(modules, r, length); } return false; } signs.add");
        s.edge("the first itself does not, if there is none", () -> reads("0001111 0110110 ???1001 0100101", 0, 0),
                MEND, "return NONE;", "mended += gone; return NONE;");
        s.edge("the first itself does not, if it is above 10", () -> reads("0001111 0110111 10110?? 0100101", 0, 1),
                MEND, "if (sign <= SEPARATOR)", "if (sign <= WORDS)");
        s.edge("the first sign of all", () -> reads("???1111 0110111 1001001 0100101", 0, 0), DECODE,
                "s = 0; s < length; s++", "s = length - 1; s >= 0; s--");
    }

    private static void mendedLast(Edges all) {
        Edges.Sentence s = all.sentence(16, "The modules that were mended by the last parse()");
        s.edge("each parse() counts anew", () -> {
            ScanCodes x = sixteen(1);
            Due.readApart(x, "??01111 0110110 1001001 0100101");
            Due.is("parse() again", 1, () -> x.parse());
            Due.is("mended()", 2, () -> x.mended());
        }, DECODE, "mended = 0;", "");
        s.edge("parseTyped() leaves them", () -> {
            ScanCodes x = sixteen(1);
            Due.readApart(x, "??01111 0110110 1001001 0100101");
            Due.type(x, "1694");
            Due.is("parseTyped()", 1, () -> x.parseTyped());
            Due.is("mended()", 2, () -> x.mended());
        }, "public int parseTyped()", "return taker.takeApart", "mendedModules = 0; return taker.takeApart");
    }
}
