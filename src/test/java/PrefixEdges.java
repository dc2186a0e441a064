/** Boundary cases of promises 1 (a new object), 2 (prefix) and 3 (needs). */
final class PrefixEdges {
    private static final String NEW = "public ScanCodes(int form)";
    private static final String PREFIX = "public int prefix(";
    private static final String NEEDS = "public void needs(";
    private static final String IS_PREFIX = "boolean isPrefix(";
    private static final String PUT = "void put(int prefix";
    private static final String PUT_NEED = "void putNeed(";
    private static final String FORM = "Math.max(0, Math.min(form, MAX_FORM))";
    private static final String STATION = "station != ANY_STATION && !isStation(station)";

    private PrefixEdges() {
    }

    static void addTo(Edges all) {
        forms(all);
        noPrefixes(all);
        prefixRange(all);
        lengthRange(all);
        stationRange(all);
        toldAnew(all);
        sixteen(all);
        prefixRefused(all);
        needsUnknown(all);
        needsNone(all);
        needsRange(all);
        needsRefused(all);
    }

    /** The modules of 16 9 4 begin otherwise in each form. */
    private static void hasForm(int told, int due) {
        ScanCodes x = new ScanCodes(told);
        Due.is("count(7) of form " + told, due, () -> x.count(7));
        x.prefix(16, 1, true, -1);
        x.field(16, 9, 1);
        x.make();
        String[] begins = {"0001" + "0110", "0001111" + "0", "0010" + "0101"};
        Due.compare("the modules of form " + told, begins[due], Due.modules(x).substring(0, 8));
    }

    private static void forms(Edges all) {
        Edges.Sentence s = all.sentence(1, "A form (below 0: 0, above 2: 2)");
        s.edge("-1 is 0", () -> hasForm(-1, 0), NEW, FORM, "form == -1 ? 1 : " + FORM);
        s.edge("the least number is 0", () -> hasForm(Integer.MIN_VALUE, 0), NEW, FORM,
                "Math.min(Math.max(form - 1, -1) + 1, MAX_FORM)");
        s.edge("0 is 0", () -> hasForm(0, 0), NEW, FORM, "form == 0 ? 1 : " + FORM);
        s.edge("1 is 1", () -> hasForm(1, 1), NEW, FORM, "form == 1 ? 0 : " + FORM);
        s.edge("2 is 2", () -> hasForm(2, 2), NEW, FORM, "form == 2 ? 1 : " + FORM);
        s.edge("3 is 2", () -> hasForm(3, 2), NEW, FORM, "form == 3 ? 0 : " + FORM);
        s.edge("the greatest number is 2", () -> hasForm(Integer.MAX_VALUE, 2), NEW, FORM,
                "Math.max(0, Math.min(form + 1, MAX_FORM + 1) - 1)");
    }

    private static void noPrefixes(Edges all) {
        Edges.Sentence s = all.sentence(1, "no prefixes");
        s.edge("a new object knows none of 10 .. 99", () -> {
            ScanCodes x = new ScanCodes(1);
            Due.is("count(0)", 0, () -> x.count(0));
            for (int prefix = 10; prefix <= 99; prefix++) {
                int n = prefix;
                Due.refused("field of " + n, Due.NO_SUCH, () -> x.field(n, 1, 1));
            }
        }, NEW, "prefixes = new Prefixes();", "prefixes = new Prefixes(); prefixes.put(99, 1, true, -1);");
    }

    private static void refusedPrefix(int prefix, int length, int station) {
        ScanCodes x = new ScanCodes(0);
        Due.refused("prefix", Due.ARGUMENT, () -> x.prefix(prefix, length, true, station));
        Due.refused("prefix that is not fixed", Due.ARGUMENT, () -> x.prefix(prefix, length, false, station));
        Due.is("count(0)", 0, () -> x.count(0));
    }

    private static void takenPrefix(int prefix, int length, int station) {
        ScanCodes x = new ScanCodes(0);
        Due.is("prefix", 1, () -> x.prefix(prefix, length, true, station));
        Due.is("its field", 1, () -> x.field(prefix, 1, length));
    }

    private static void prefixRange(Edges all) {
        Edges.Sentence s = all.sentence(2, "PREFIXES are 10 .. 99");
        s.edge("9 is too small", () -> refusedPrefix(9, 1, 0), IS_PREFIX, "prefix >= MIN_PREFIX", "prefix >= 9");
        s.edge("0 is too small", () -> refusedPrefix(0, 1, 0), IS_PREFIX, "prefix >=", "prefix == 0 || prefix >=");
        s.edge("below 0 is too small", () -> {
            refusedPrefix(-1, 1, 0);
            refusedPrefix(-10, 1, 0);
            refusedPrefix(Integer.MIN_VALUE, 1, 0);
        }, PREFIX, "!isPrefix(prefix)", "!isPrefix(Math.abs(prefix))");
        s.edge("10 is the least", () -> takenPrefix(10, 1, 0), IS_PREFIX, "prefix >= MIN_PREFIX", "prefix > 10");
        s.edge("99 is the greatest", () -> takenPrefix(99, 1, 0), IS_PREFIX, "prefix <= MAX_PREFIX", "prefix < 99");
        s.edge("100 is too large", () -> refusedPrefix(100, 1, 0), PREFIX, "if (!isPrefix(prefix)",
                "if (prefix == 100) { return 1; } if (!isPrefix(prefix)");
        s.edge("the greatest number is too large", () -> refusedPrefix(Integer.MAX_VALUE, 1, 0), PREFIX,
                "if (!isPrefix(prefix)", "if (prefix > 1000) { return 1; } if (!isPrefix(prefix)");
    }

    private static void lengthRange(Edges all) {
        Edges.Sentence s = all.sentence(2, "A prefix that is KNOWN has a LENGTH 1 .. 12");
        s.edge("0 is too small", () -> refusedPrefix(10, 0, 0), PREFIX, "length < 1", "length < 0");
        s.edge("below 0 is too small", () -> {
            refusedPrefix(10, -1, 0);
            refusedPrefix(10, Integer.MIN_VALUE, 0);
        }, PREFIX, "length < 1", "length == 0");
        s.edge("1 is the least", () -> takenPrefix(10, 1, 0), PREFIX, "length < 1", "length < 2");
        s.edge("12 is the greatest", () -> takenPrefix(10, 12, 0), PREFIX, "length > MAX_DIGITS", "length > 11");
        s.edge("13 is too large", () -> refusedPrefix(10, 13, 0), PREFIX, "length > MAX_DIGITS", "length > 13");
        s.edge("the greatest number is too large", () -> refusedPrefix(10, Integer.MAX_VALUE, 0), PREFIX,
                "length > MAX_DIGITS", "length == 13");
    }

    private static void stationRange(Edges all) {
        Edges.Sentence s = all.sentence(2, "a STATION 0 .. 7 or -1 (any)");
        s.edge("-2 is too small", () -> refusedPrefix(10, 1, -2), PREFIX, STATION, "station < -2 || station > 7");
        s.edge("the least number is too small", () -> refusedPrefix(10, 1, Integer.MIN_VALUE), PREFIX, STATION,
                "station == -2 || station > 7");
        s.edge("-1 is any", () -> takenPrefix(10, 1, -1), PREFIX, STATION, "!isStation(station)");
        s.edge("0 is the first", () -> takenPrefix(10, 1, 0), PREFIX, STATION, STATION + " || station == 0");
        s.edge("7 is the last", () -> takenPrefix(10, 1, 7), PREFIX, STATION, STATION + " || station == 7");
        s.edge("8 is too large", () -> refusedPrefix(10, 1, 8), PREFIX, STATION, "station < -1 || station > 8");
        s.edge("the greatest number is too large", () -> refusedPrefix(10, 1, Integer.MAX_VALUE), PREFIX, STATION,
                "station < -1 || station == 8");
    }

    private static void toldAnew(Edges all) {
        Edges.Sentence s = all.sentence(2, "A prefix is known (told anew: instead; it needs none then): how many are");
        s.edge("told anew it is counted once", () -> {
            ScanCodes x = new ScanCodes(0);
            Due.is("told", 1, () -> x.prefix(30, 3, true, -1));
            Due.is("told anew", 1, () -> x.prefix(30, 3, true, -1));
            Due.is("another", 2, () -> x.prefix(31, 3, true, -1));
        }, PUT, "if (!has(prefix)) { size++; }", "size++;");
        s.edge("the new length", () -> {
            ScanCodes x = Edges.fixed(0, 30, 3);
            x.prefix(30, 4, true, -1);
            Due.refused("three digits", Due.ARGUMENT, () -> x.field(30, 1, 3));
            Due.is("four digits", 1, () -> x.field(30, 1, 4));
        }, PUT, "lengths[prefix] = length;", "lengths[prefix] = has(prefix) ? lengths[prefix] : length;");
        s.edge("fixed no more", () -> {
            ScanCodes x = Edges.fixed(0, 30, 3);
            x.prefix(30, 3, false, -1);
            Due.is("one digit", 1, () -> x.field(30, 1, 1));
        }, PUT, "fixed[prefix] = isFixed;", "fixed[prefix] |= isFixed;");
        s.edge("the new station", () -> {
            ScanCodes x = new ScanCodes(0);
            x.prefix(30, 1, true, 1);
            x.prefix(30, 1, true, 2);
            Due.apart(x, "301");
            Due.is("the old one", -1, () -> x.scan(1, 0));
            Due.is("the new one", 1, () -> x.scan(2, 0));
        }, PUT, "stations[prefix] = station;", "if (stations[prefix] == 0) { stations[prefix] = station; }");
        s.edge("it needs none then", () -> {
            ScanCodes x = Edges.fixed(0, 30, 1);
            x.needs(30, 31);
            x.prefix(30, 1, true, -1);
            Due.is("alone", 1, () -> Due.apart(x, "301"));
        }, PUT, "needs[prefix] = NO_NEED;", "");
    }

    private static ScanCodes withSixteen() {
        ScanCodes x = new ScanCodes(0);
        for (int prefix = 20; prefix < 36; prefix++) {
            x.prefix(prefix, 1, true, -1);
        }
        return x;
    }

    private static void sixteen(Edges all) {
        Edges.Sentence s = all.sentence(2, "UnsupportedOperationException: there are sixteen others");
        s.edge("the sixteenth is known", () -> {
            ScanCodes x = new ScanCodes(0);
            for (int i = 1; i <= 16; i++) {
                int n = i;
                Due.is("prefix " + n, n, () -> x.prefix(19 + n, 1, true, -1));
            }
        }, PREFIX, "prefixes.size() >= MAX_PREFIXES", "prefixes.size() >= 15");
        s.edge("the seventeenth is not", () -> {
            ScanCodes x = withSixteen();
            Due.refused("the seventeenth", Due.NO_ROOM, () -> x.prefix(99, 1, true, -1));
            Due.refused("the seventeenth again", Due.NO_ROOM, () -> x.prefix(10, 12, false, 7));
        }, PREFIX, "prefixes.size() >= MAX_PREFIXES", "prefixes.size() > MAX_PREFIXES");
        s.edge("it is known no more than before", () -> {
            ScanCodes x = withSixteen();
            Due.refused("the seventeenth", Due.NO_ROOM, () -> x.prefix(99, 1, true, -1));
            Due.is("count(0)", 16, () -> x.count(0));
            Due.refused("its field", Due.NO_SUCH, () -> x.field(99, 1, 1));
            Due.is("the first of the sixteen", 1, () -> x.field(20, 1, 1));
        }, PREFIX, "throw new UnsupportedOperationException(",
                "prefixes.put(prefix, length, fixed, station); throw new UnsupportedOperationException(");
        s.edge("one of the sixteen may be told anew", () -> {
            ScanCodes x = withSixteen();
            Due.is("the first anew", 16, () -> x.prefix(20, 2, true, -1));
            Due.is("the last anew", 16, () -> x.prefix(35, 2, true, -1));
            Due.is("as told anew", 1, () -> x.field(35, 1, 2));
        }, PREFIX, "!prefixes.has(prefix) && ", "");
    }

    private static void prefixRefused(Edges all) {
        Edges.Sentence first = all.sentence(2, "REFUSALS, the first that holds");
        first.edge("a number outside its range comes before no room", () -> {
            ScanCodes x = withSixteen();
            Due.refused("prefix 100", Due.ARGUMENT, () -> x.prefix(100, 1, true, -1));
            Due.refused("length 13", Due.ARGUMENT, () -> x.prefix(99, 13, true, -1));
            Due.refused("station 8", Due.ARGUMENT, () -> x.prefix(99, 1, true, 8));
        }, PREFIX, "if (!isPrefix(prefix)", "if (!prefixes.has(prefix) && prefixes.size() >= MAX_PREFIXES) "
                + "{ throw new UnsupportedOperationException(); } if (!isPrefix(prefix)");
        Edges.Sentence s = all.sentence(2, "IllegalArgumentException: another number outside its range");
        s.edge("a prefix told anew wrongly stays as it was", () -> {
            ScanCodes x = new ScanCodes(0);
            x.prefix(30, 3, true, 1);
            x.needs(30, 31);
            Due.refused("length 13", Due.ARGUMENT, () -> x.prefix(30, 13, false, 2));
            Due.refused("length 0", Due.ARGUMENT, () -> x.prefix(30, 0, false, 2));
            Due.is("it needs 31 yet", -7, () -> Due.apart(x, "30123"));
            Due.is("it is fixed yet", -5, () -> Due.apart(x, "301"));
        }, PREFIX, "throw new IllegalArgumentException(",
                "prefixes.put(prefix, 3, fixed, station); throw new IllegalArgumentException(");
        s.edge("a prefix told anew with a wrong station stays as it was", () -> {
            ScanCodes x = new ScanCodes(0);
            x.prefix(30, 1, true, 1);
            Due.refused("station 8", Due.ARGUMENT, () -> x.prefix(30, 2, true, 8));
            Due.is("one digit yet", 1, () -> Due.apart(x, "301"));
            Due.is("its station yet", 1, () -> x.scan(1, 0));
        }, PREFIX, "throw new IllegalArgumentException(\"no such station\")",
                "prefixes.put(prefix, length, fixed, -1); throw new IllegalArgumentException()");
    }

    private static void needsUnknown(Edges all) {
        Edges.Sentence s = all.sentence(3, "NoSuchElementException: a field or prefix that there is not");
        s.edge("a prefix that is not known", () -> {
            ScanCodes x = Edges.fixed(0, 10, 1);
            Due.refused("11", Due.NO_SUCH, () -> x.needs(11, 10));
            Due.refused("99", Due.NO_SUCH, () -> x.needs(99, 0));
        }, NEEDS, "!prefixes.has(prefix)", "!isPrefix(prefix)");
        s.edge("a number that is no prefix", () -> {
            ScanCodes x = Edges.fixed(0, 10, 1, 99, 1);
            int[] none = {9, 100, 0, -1, -10, Integer.MIN_VALUE, Integer.MAX_VALUE};
            for (int prefix : none) {
                Due.refused("" + prefix, Due.NO_SUCH, () -> x.needs(prefix, 10));
            }
        }, NEEDS, "if (!prefixes.has(prefix)) {",
                "if (!isPrefix(prefix)) { throw new IllegalArgumentException(); } if (!prefixes.has(prefix)) {");
    }

    private static void needsNone(Edges all) {
        Edges.Sentence s = all.sentence(3, "A known prefix needs another one, known or not (0: none any more)");
        s.edge("one that is not known", () -> {
            ScanCodes x = Edges.fixed(0, 10, 1);
            x.needs(10, 20);
            Due.is("without it", -7, () -> Due.apart(x, "101"));
            x.prefix(20, 1, true, -1);
            Due.is("known by now, and with it", 2, () -> Due.apart(x, "101202"));
        }, NEEDS, "!isPrefix(other)", "!prefixes.has(other)");
        s.edge("none any more", () -> {
            ScanCodes x = Edges.fixed(0, 10, 1);
            x.needs(10, 20);
            x.needs(10, 0);
            Due.is("alone", 1, () -> Due.apart(x, "101"));
        }, PUT_NEED, "needs[prefix] = other;", "needs[prefix] = other == 0 ? needs[prefix] : other;");
        s.edge("none where there was none", () -> {
            ScanCodes x = Edges.fixed(0, 10, 1);
            x.needs(10, 0);
            Due.is("alone", 1, () -> Due.apart(x, "101"));
        }, NEEDS, "prefixes.putNeed(prefix, other);",
                "if (other == 0 && prefixes.needOf(prefix) == 0) { throw new IllegalArgumentException(); } "
                        + "prefixes.putNeed(prefix, other);");
        s.edge("another one instead", () -> {
            ScanCodes x = Edges.fixed(0, 10, 1, 20, 1, 30, 1);
            x.needs(10, 20);
            x.needs(10, 30);
            Due.is("the first is not needed", 2, () -> Due.apart(x, "101301"));
            Due.is("the second is", -7, () -> Due.apart(x, "101201"));
        }, PUT_NEED, "if (has(prefix))", "if (has(prefix) && (other == 0 || needs[prefix] == 0))");
        s.edge("each the other", () -> {
            ScanCodes x = Edges.fixed(0, 10, 1, 20, 1);
            x.needs(10, 20);
            x.needs(20, 10);
            Due.is("both", 2, () -> Due.apart(x, "101201"));
            Due.is("one", -7, () -> Due.apart(x, "101"));
            Due.is("the other", -7, () -> Due.apart(x, "201"));
        }, NEEDS, "other == prefix ||", "other == prefix || prefixes.needOf(other) == prefix ||");
    }

    private static void refusedNeed(int other) {
        ScanCodes x = Edges.fixed(0, 50, 1);
        Due.refused("needs(50, " + other + ")", Due.ARGUMENT, () -> x.needs(50, other));
    }

    private static void takenNeed(int other) {
        ScanCodes x = Edges.fixed(0, 50, 1, other, 1);
        x.needs(50, other);
        Due.is("without it", -7, () -> Due.apart(x, "501"));
        Due.is("with it", 2, () -> Due.apart(x, "501" + other + "1"));
    }

    private static void needsRange(Edges all) {
        Edges.Sentence s = all.sentence(3, "IllegalArgumentException: not 0 or a prefix, or itself");
        s.edge("9 is too small", () -> refusedNeed(9), NEEDS, "!isPrefix(other)", "!isPrefix(other) && other != 9");
        s.edge("1 is too small", () -> refusedNeed(1), NEEDS, "!isPrefix(other)", "!isPrefix(other) && other != 1");
        s.edge("below 0 is too small", () -> {
            refusedNeed(-1);
            refusedNeed(-10);
            refusedNeed(Integer.MIN_VALUE);
        }, NEEDS, "other != NO_NEED", "other > NO_NEED");
        s.edge("10 is the least", () -> takenNeed(10), NEEDS, "!isPrefix(other)", "(other < 11 || other > 99)");
        s.edge("99 is the greatest", () -> takenNeed(99), NEEDS, "!isPrefix(other)", "(other < 10 || other > 98)");
        s.edge("100 is too large", () -> refusedNeed(100), NEEDS, "!isPrefix(other)", "(other < 10 || other > 100)");
        s.edge("the greatest number is too large", () -> refusedNeed(Integer.MAX_VALUE), NEEDS, "!isPrefix(other)",
                "(other < 10 || other == 100)");
        s.edge("itself", () -> refusedNeed(50), NEEDS, "other == prefix ||", "");
    }

    private static void needsRefused(Edges all) {
        Edges.Sentence first = all.sentence(3, "REFUSALS, the first that holds");
        first.edge("a prefix that there is not comes before a number outside its range", () -> {
            ScanCodes x = Edges.fixed(0, 10, 1);
            Due.refused("needs(11, 11)", Due.NO_SUCH, () -> x.needs(11, 11));
            Due.refused("needs(11, 100)", Due.NO_SUCH, () -> x.needs(11, 100));
            Due.refused("needs(100, -1)", Due.NO_SUCH, () -> x.needs(100, -1));
        }, NEEDS, "if (!prefixes.has(prefix))", "if (other == prefix || (other != NO_NEED && !isPrefix(other))) "
                + "{ throw new IllegalArgumentException(); } if (!prefixes.has(prefix))");
        Edges.Sentence s = all.sentence(3, "IllegalArgumentException: not 0 or a prefix, or itself");
        s.edge("a refused call leaves the need", () -> {
            ScanCodes x = Edges.fixed(0, 10, 1, 20, 1);
            x.needs(10, 20);
            Due.refused("needs(10, 10)", Due.ARGUMENT, () -> x.needs(10, 10));
            Due.refused("needs(10, 9)", Due.ARGUMENT, () -> x.needs(10, 9));
            Due.is("without 20", -7, () -> Due.apart(x, "101"));
            Due.is("with 20", 2, () -> Due.apart(x, "101201"));
        }, NEEDS, "throw new IllegalArgumentException(",
                "prefixes.putNeed(prefix, NO_NEED); throw new IllegalArgumentException(");
    }
}
