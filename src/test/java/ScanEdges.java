/** Boundary cases of promises 18 (scan) and 19 (count), and of the 512 calls of an object. */
final class ScanEdges {
    private static final String SCAN = "public int scan(";
    private static final String NEW = "public ScanCodes(int form)";
    private static final String STRANGE = "int firstStrange(";
    private static final String ACCEPTS = "boolean accepts(";
    private static final String IS_AT = "boolean isAt(";
    private static final String KEY = "long keyOf(";
    private static final String COUNT = "public int count(";
    private static final String NOT_STATION = "!isStation(station)";
    private static final String BEFORE = "second < lastSecond";
    private static final String DOUBLED = "before != NEVER && second - before <= DOUBLED_SECONDS";
    private static final String FULL = "place == NONE && scans.isFull()";
    private static final String REFUSED = "if (strange != NONE) { return";
    private static final String SIX = "900911922933944955";

    private ScanEdges() {
    }

    static void addTo(Edges all) {
        stationRange(all);
        secondRange(all);
        lastScan(all);
        nothingTaken(all);
        otherStation(all);
        tenSeconds(all);
        earlierCounts(all);
        notRefused(all);
        justTheseFields(all);
        fortyLabels(all);
        fortyOrder(all);
        scanOrder(all);
        countNew(all);
        countMost(all);
        countOthers(all);
        countFull(all);
        countLabels(all);
        calls(all);
    }

    private static ScanCodes codes() {
        ScanCodes x = Edges.fixed(1, 90, 1, 91, 1, 92, 1, 93, 1, 94, 1, 95, 1);
        x.prefix(20, 2, true, 2);
        x.prefix(30, 2, true, 3);
        return Edges.with(x, false, 10, 4, 40, 12);
    }

    private static ScanCodes apart(String signs) {
        ScanCodes x = codes();
        Due.apart(x, signs);
        return x;
    }

    private static void refusedScan(int station, int second) {
        ScanCodes x = apart("101");
        Due.refused("scan(" + station + ", " + second + ")", Due.ARGUMENT, () -> x.scan(station, second));
        Due.is("count(6)", 0, () -> x.count(6));
    }

    private static void takenScan(int station, int second) {
        ScanCodes x = apart("101");
        Due.is("scan(" + station + ", " + second + ")", 1, () -> x.scan(station, second));
        Due.is("doubled", 0, () -> x.scan(station, second));
    }

    private static void stationRange(Edges all) {
        Edges.Sentence s = all.sentence(18, "is scanned at a station (0 .. 7)");
        s.edge("-1 is too small", () -> refusedScan(-1, 0), SCAN, NOT_STATION, "(station < -1 || station > 7)");
        s.edge("the least number is too small", () -> refusedScan(Integer.MIN_VALUE, 0), SCAN, NOT_STATION,
                "(station == -1 || station > 7)");
        s.edge("0 is the first", () -> takenScan(0, 0), SCAN, NOT_STATION, "(station < 1 || station > 7)");
        s.edge("7 is the last", () -> takenScan(7, 0), SCAN, NOT_STATION, "(station < 0 || station > 6)");
        s.edge("8 is too large", () -> refusedScan(8, 0), SCAN, NOT_STATION, "(station < 0 || station > 8)");
        s.edge("the greatest number is too large", () -> refusedScan(Integer.MAX_VALUE, 0), SCAN, NOT_STATION,
                "(station < 0 || station == 8)");
    }

    private static void secondRange(Edges all) {
        Edges.Sentence s = all.sentence(18, "at a second (0 or later, and not before that of the last scan");
        s.edge("-1 is too small", () -> refusedScan(0, -1), NEW, "lastSecond = 0;", "lastSecond = -1;");
        s.edge("the least number is too small", () -> refusedScan(0, Integer.MIN_VALUE), SCAN, BEFORE,
                BEFORE + " && second > Integer.MIN_VALUE");
        s.edge("0 is the first", () -> takenScan(0, 0), NEW, "lastSecond = 0;", "lastSecond = 1;");
        s.edge("the greatest number is the last", () -> takenScan(0, Integer.MAX_VALUE), SCAN, BEFORE,
                "second + 1 <= lastSecond");
        s.edge("one before that of the last scan", () -> {
            ScanCodes x = apart("101");
            x.scan(0, 5);
            Due.refused("the same station", Due.ARGUMENT, () -> x.scan(0, 4));
            Due.refused("another station", Due.ARGUMENT, () -> x.scan(1, 4));
            Due.apart(x, "102");
            Due.refused("another label", Due.ARGUMENT, () -> x.scan(0, 4));
        }, SCAN, BEFORE, "second < lastSecond - 1");
        s.edge("just that of the last scan", () -> {
            ScanCodes x = apart("101");
            x.scan(0, 5);
            Due.is("another station", 1, () -> x.scan(1, 5));
        }, SCAN, BEFORE, "second < lastSecond + (lastSecond > 0 ? 1 : 0)");
        s.edge("a refused call scans nothing", () -> {
            ScanCodes x = apart("101");
            x.scan(0, 5);
            Due.refused("before it", Due.ARGUMENT, () -> x.scan(1, 4));
            Due.refused("no station", Due.ARGUMENT, () -> x.scan(8, 5));
            Due.is("not doubled by that", 1, () -> x.scan(1, 5));
            Due.is("count(6)", 1, () -> x.count(6));
        }, SCAN, "throw new IllegalArgumentException(",
                "scans.accepts(0, station, lastSecond); throw new IllegalArgumentException(");
    }

    private static void lastScan(Edges all) {
        Edges.Sentence s = all.sentence(18, "that of the last scan that was not refused by an exception");
        s.edge("not of one at no station", () -> {
            ScanCodes x = apart("101");
            Due.refused("scan(8, 50)", Due.ARGUMENT, () -> x.scan(8, 50));
            Due.is("scan(0, 49)", 1, () -> x.scan(0, 49));
        }, SCAN, "throw new IllegalArgumentException(",
                "lastSecond = Math.max(second, lastSecond); throw new IllegalArgumentException(");
        s.edge("not of one before the last", () -> {
            ScanCodes x = apart("101");
            x.scan(0, 50);
            Due.refused("scan(0, 40)", Due.ARGUMENT, () -> x.scan(0, 40));
            Due.refused("scan(0, 45)", Due.ARGUMENT, () -> x.scan(0, 45));
        }, SCAN, "throw new IllegalArgumentException(",
                "lastSecond = Math.max(second, 0); throw new IllegalArgumentException(");
        s.edge("not of one with nothing taken apart", () -> {
            ScanCodes x = codes();
            Due.refused("scan(0, 50)", Due.STATE, () -> x.scan(0, 50));
            Due.apart(x, "101");
            Due.is("scan(0, 49)", 1, () -> x.scan(0, 49));
        }, SCAN, "throw new IllegalStateException(", "lastSecond = second; throw new IllegalStateException(");
        s.edge("not of one without room", () -> {
            ScanCodes x = withForty();
            Due.apart(x, "1040");
            Due.refused("scan(0, 50)", Due.NO_ROOM, () -> x.scan(0, 50));
            Due.apart(x, "1000");
            Due.is("scan(0, 49)", 1, () -> x.scan(0, 49));
        }, SCAN, "throw new UnsupportedOperationException(",
                "lastSecond = second; throw new UnsupportedOperationException(");
        s.edge("of one that a station refused", () -> {
            ScanCodes x = apart("2012");
            Due.is("scan(1, 5)", -1, () -> x.scan(1, 5));
            Due.refused("scan(2, 4)", Due.ARGUMENT, () -> x.scan(2, 4));
            Due.is("scan(2, 5)", 1, () -> x.scan(2, 5));
        }, SCAN, "lastSecond = second; int strange = firstStrange(label, station); " + REFUSED + " -1 - strange; }",
                "int strange = firstStrange(label, station); " + REFUSED + " -1 - strange; } lastSecond = second;");
        s.edge("of one that was doubled", () -> {
            ScanCodes x = apart("101");
            Due.is("scan(0, 5)", 1, () -> x.scan(0, 5));
            Due.is("scan(0, 9)", 0, () -> x.scan(0, 9));
            Due.refused("scan(0, 8)", Due.ARGUMENT, () -> x.scan(0, 8));
        }, SCAN, "return scans.accepts(place, station, second) ? label.size() : 0;",
                "int before = place >= 0 ? scans.seconds[place * STATIONS + station] : 0; "
                        + "boolean taken = scans.accepts(place, station, second); "
                        + "if (!taken) { lastSecond = before; } return taken ? label.size() : 0;");
    }

    private static void nothingTaken(Edges all) {
        Edges.Sentence s = all.sentence(18, "IllegalStateException: nothing could be taken apart");
        s.edge("a new object", () -> {
            ScanCodes x = codes();
            Due.refused("scan(0, 0)", Due.STATE, () -> x.scan(0, 0));
            Due.is("count(6)", 0, () -> x.count(6));
        }, SCAN, "if (label.size() == 0)", "if (label.size() < 0)");
        s.edge("what was taken apart last was wrong", () -> {
            ScanCodes x = apart("101");
            Due.is("99", -4, () -> Due.apart(x, "991"));
            Due.refused("scan(0, 0)", Due.STATE, () -> x.scan(0, 0));
            Due.is("101 and 99", -4, () -> Due.apart(x, "101/991"));
            Due.refused("scan(0, 0)", Due.STATE, () -> x.scan(0, 0));
        }, "int takeApart(", "fields.empty();", "");
        s.edge("what was read could not be mended", () -> {
            ScanCodes x = apart("101");
            x.read(0);
            Due.is("parse()", 0, () -> x.parse());
            Due.refused("scan(0, 0)", Due.STATE, () -> x.scan(0, 0));
        }, "public int parse()", "taker.forget();", "");
        s.edge("cleared", () -> {
            ScanCodes x = apart("101");
            x.clear();
            Due.refused("scan(0, 0)", Due.STATE, () -> x.scan(0, 0));
        }, "public void clear()", "taker.forget();", "");
    }

    private static void otherStation(Edges all) {
        Edges.Sentence s = all.sentence(18,
                "less one and the number of the first field whose prefix has another station (as it is now)");
        s.edge("the only field", () -> {
            ScanCodes x = apart("2012");
            Due.is("one below", -1, () -> x.scan(1, 0));
            Due.is("one above", -1, () -> x.scan(3, 0));
            Due.is("its own", 1, () -> x.scan(2, 0));
        }, STRANGE, "own != station", "own > station");
        s.edge("the first of six", () -> {
            ScanCodes x = codes();
            x.prefix(90, 1, true, 7);
            Due.apart(x, SIX);
            Due.is("at 0", -1, () -> x.scan(0, 0));
            Due.is("at 7", 6, () -> x.scan(7, 0));
        }, STRANGE, "int i = 0;", "int i = 1;");
        s.edge("the last of six", () -> {
            ScanCodes x = codes();
            x.prefix(95, 1, true, 0);
            Due.apart(x, SIX);
            Due.is("at 7", -6, () -> x.scan(7, 0));
            Due.is("at 0", 6, () -> x.scan(0, 0));
        }, STRANGE, "i < label.size();", "i < label.size() - 1;");
        s.edge("the first of two that have others", () -> {
            ScanCodes x = apart("101/20123012");
            Due.is("neither's", -2, () -> x.scan(0, 0));
            Due.is("the first one's", -3, () -> x.scan(2, 0));
            Due.is("the second one's", -2, () -> x.scan(3, 0));
        }, STRANGE, "return i;", "return i == 1 && station == 0 ? 2 : i;");
        s.edge("any station", () -> {
            ScanCodes x = apart("101");
            for (int station = 0; station < 8; station++) {
                int n = station;
                Due.is("at " + n, 1, () -> x.scan(n, 0));
            }
        }, STRANGE, "own != ANY_STATION &&", "");
        s.edge("the station told anew since it was taken apart", () -> {
            ScanCodes x = apart("2012");
            x.prefix(20, 2, true, 5);
            Due.is("the old one", -1, () -> x.scan(2, 0));
            Due.is("the new one", 1, () -> x.scan(5, 0));
            x.prefix(20, 2, true, -1);
            Due.is("any", 1, () -> x.scan(2, 0));
        }, STRANGE, "int own = prefixes.stationOf(label.prefixAt(i));",
                "int own = label.prefixAt(i) == 20 ? 2 : prefixes.stationOf(label.prefixAt(i));");
        s.edge("it comes before a doubled scan", () -> {
            ScanCodes x = apart("2012");
            Due.is("its own", 1, () -> x.scan(2, 0));
            x.prefix(20, 2, true, 5);
            Due.is("its own no more", -1, () -> x.scan(2, 1));
        }, SCAN, "if (strange != NONE)", "if (strange != NONE && place == NONE)");
    }

    private static void tenSeconds(Edges all) {
        Edges.Sentence s = all.sentence(18, "was scanned at this station (and not refused) no more than ten seconds "
                + "before");
        s.edge("the same second", () -> scanned(5, 5, 0), ACCEPTS, DOUBLED, DOUBLED + " && second > before");
        s.edge("one second", () -> scanned(5, 6, 0), ACCEPTS, DOUBLED, DOUBLED + " && second != before + 1");
        s.edge("ten seconds", () -> scanned(5, 15, 0), ACCEPTS, "<= DOUBLED_SECONDS", "< DOUBLED_SECONDS");
        s.edge("eleven seconds", () -> scanned(5, 16, 1), ACCEPTS, "<= DOUBLED_SECONDS", "<= DOUBLED_SECONDS + 1");
        s.edge("ten and eleven from second 0", () -> {
            scanned(0, 10, 0);
            scanned(0, 11, 1);
        }, ACCEPTS, "before != NEVER", "before > 0");
        s.edge("the greatest number of seconds", () -> {
            scanned(0, Integer.MAX_VALUE, 1);
            scanned(Integer.MAX_VALUE - 11, Integer.MAX_VALUE, 1);
        }, ACCEPTS, "second - before <= DOUBLED_SECONDS",
                "(second - before <= DOUBLED_SECONDS || second == Integer.MAX_VALUE)");
        s.edge("ten seconds at the end of all seconds", () -> {
            scanned(Integer.MAX_VALUE - 10, Integer.MAX_VALUE, 0);
            scanned(Integer.MAX_VALUE - 5, Integer.MAX_VALUE, 0);
            scanned(Integer.MAX_VALUE, Integer.MAX_VALUE, 0);
        }, ACCEPTS, "second - before <= DOUBLED_SECONDS", "second <= before + DOUBLED_SECONDS");
        s.edge("never at this station, at second 0 to 9", () -> {
            ScanCodes x = apart("101");
            Due.is("first", 1, () -> x.scan(0, 0));
            Due.is("another station", 1, () -> x.scan(1, 9));
        }, ACCEPTS, "before != NEVER &&", "");
        s.edge("another station does not count", () -> {
            ScanCodes x = apart("101");
            Due.is("at 3", 1, () -> x.scan(3, 5));
            Due.is("at 4", 1, () -> x.scan(4, 5));
            Due.is("at 0", 1, () -> x.scan(0, 5));
            Due.is("at 7", 1, () -> x.scan(7, 5));
            Due.is("at 3 again", 0, () -> x.scan(3, 15));
        }, ACCEPTS, "place * STATIONS + station", "place * STATIONS");
        s.edge("another label between does not count", () -> {
            ScanCodes x = apart("101");
            Due.is("first", 1, () -> x.scan(7, 5));
            Due.apart(x, "102");
            Due.is("another label", 1, () -> x.scan(0, 6));
            Due.is("another label, there too", 1, () -> x.scan(7, 6));
            Due.apart(x, "101");
            Due.is("the first again", 0, () -> x.scan(7, 15));
        }, ACCEPTS, "place * STATIONS + station", "station");
    }

    private static void scanned(int first, int again, int due) {
        ScanCodes x = apart("101");
        Due.is("at second " + first, 1, () -> x.scan(4, first));
        Due.is("again at second " + again, due, () -> x.scan(4, again));
    }

    private static void earlierCounts(Edges all) {
        Edges.Sentence s = all.sentence(18, "(the earlier one counts for others)");
        s.edge("a doubled scan does not", () -> {
            ScanCodes x = apart("101");
            Due.is("first", 1, () -> x.scan(0, 5));
            Due.is("doubled", 0, () -> x.scan(0, 15));
            Due.is("eleven behind the first", 1, () -> x.scan(0, 16));
        }, ACCEPTS, "{ return false; } seconds[index]", "{ seconds[index] = second; return false; } seconds[index]");
        s.edge("the next one that was not doubled does", () -> {
            ScanCodes x = apart("101");
            x.scan(0, 5);
            Due.is("eleven later", 1, () -> x.scan(0, 16));
            Due.is("ten behind that", 0, () -> x.scan(0, 26));
            Due.is("eleven behind that", 1, () -> x.scan(0, 27));
        }, ACCEPTS, "seconds[index] = second; return true;", "if (before == NEVER) { seconds[index] = second; } "
                + "return true;");
    }

    private static void notRefused(Edges all) {
        Edges.Sentence s = all.sentence(18, "was scanned at this station (and not refused)");
        s.edge("one that a station refused does not double", () -> {
            ScanCodes x = apart("2012");
            Due.is("its own", 1, () -> x.scan(2, 0));
            Due.is("refused", -1, () -> x.scan(5, 5));
            x.prefix(20, 2, true, 5);
            Due.is("the new one", 1, () -> x.scan(5, 6));
        }, SCAN, REFUSED, "if (strange != NONE) { scans.accepts(place, station, second); return");
        s.edge("one that a station refused leaves the earlier one", () -> {
            ScanCodes x = apart("2012");
            Due.is("its own", 1, () -> x.scan(2, 0));
            x.prefix(20, 2, true, 5);
            Due.is("refused", -1, () -> x.scan(2, 8));
            x.prefix(20, 2, true, 2);
            Due.is("ten behind the earlier one", 0, () -> x.scan(2, 10));
            Due.is("eleven behind the earlier one", 1, () -> x.scan(2, 11));
        }, SCAN, REFUSED, "if (strange != NONE) { if (place != NONE) { scans.seconds[place * STATIONS + station] "
                + "= second; } return");
        s.edge("one refused by an exception does not double", () -> {
            ScanCodes x = apart("101");
            Due.is("at 1", 1, () -> x.scan(1, 9));
            Due.refused("before it", Due.ARGUMENT, () -> x.scan(0, 8));
            Due.is("at 0", 1, () -> x.scan(0, 9));
        }, SCAN, "throw new IllegalArgumentException(",
                "scans.accepts(0, station, 8); throw new IllegalArgumentException(");
    }

    /** Two labels that are different: the second is no doubled scan of the first. */
    private static void different(String one, String other) {
        ScanCodes x = Edges.with(codes(), false, 11, 4);
        int fields = (int) Due.apart(x, one);
        Due.is(one, fields, () -> x.scan(0, 0));
        int others = (int) Due.apart(x, other);
        Due.is(other + " behind " + one, others, () -> x.scan(0, 0));
        Due.is("count(6)", 2, () -> x.count(6));
    }

    private static void justTheseFields(Edges all) {
        Edges.Sentence s = all.sentence(18,
                "the label with just these fields (prefixes, lengths, numbers, in their order)");
        s.edge("another prefix", () -> different("101", "401"), KEY, "label.prefixAt(i) * LENGTHS", "LENGTHS");
        s.edge("another length, the same number", () -> {
            different("101", "1001");
            different("400", "40000000000000");
        }, KEY, "+ label.digitsAt(i)", "");
        s.edge("a number one more", () -> {
            different("101", "102");
            different("102", "103");
        }, KEY, "+ label.numberAt(i)", "+ label.numberAt(i) / 2 * 2");
        s.edge("the next prefix, a digit less", () -> different("1001", "111"), KEY, "label.prefixAt(i) * LENGTHS",
                "label.prefixAt(i)");
        s.edge("a digit more, a number one less", () -> different("102", "1001"), KEY, "head * NUMBERS", "head");
        s.edge("a number that is the same as an int", () -> different("400000000000", "404294967296"), KEY,
                "+ label.numberAt(i)", "+ (int) label.numberAt(i)");
        s.edge("the greatest numbers", () -> different("40999999999999", "40999999999998"), KEY,
                "+ label.numberAt(i)", "+ Math.min(label.numberAt(i), 999999999998L)");
        s.edge("another order", () -> different("101/401", "401/101"), IS_AT, "!= keyOf(label, i)",
                "!= keyOf(label, label.size() == 2 && keys[place * MAX_FIELDS] != keyOf(label, 0) && i < 2 "
                        + "? 1 - i : i)");
        s.edge("a field more", () -> different("101", "101/401"), IS_AT, "i < MAX_FIELDS",
                "i < MAX_FIELDS && keys[place * MAX_FIELDS + i] != 0");
        s.edge("a field less", () -> different("101/401", "101"), IS_AT, "i < MAX_FIELDS", "i < label.size()");
        s.edge("the sixth field is another", () -> different(SIX, "900911922933944956"), IS_AT, "i < MAX_FIELDS",
                "i < MAX_FIELDS - 1");
        s.edge("the same fields, read", () -> {
            ScanCodes x = apart("101");
            Due.is("typed", 1, () -> x.scan(0, 0));
            // 10 1 4 in seven modules a sign.
            Due.is("parse()", 1, () -> Due.readApart(x, "0001111 0000000 0001111 0100101"));
            Due.is("read", 0, () -> x.scan(0, 0));
            Due.is("count(6)", 1, () -> x.count(6));
        }, SCAN, "int place = scans.placeOf(label);",
                "int place = modulesRead.size() > 0 ? NONE : scans.placeOf(label);");
        s.edge("the same fields, whatever their prefixes are now", () -> {
            ScanCodes x = apart("101");
            Due.is("first", 1, () -> x.scan(0, 0));
            x.prefix(10, 1, true, 0);
            Due.apart(x, "101");
            Due.is("fixed now", 0, () -> x.scan(0, 0));
        }, SCAN, "int place = scans.placeOf(label);",
                "int place = prefixes.isFixed(label.prefixAt(0)) ? NONE : scans.placeOf(label);");
    }

    /** 10 00 to 10 39 were scanned at station 0, one a second: that is second 39 at last. */
    private static ScanCodes withForty() {
        ScanCodes x = codes();
        for (int i = 0; i < 40; i++) {
            Due.apart(x, "10" + i / 10 + i % 10);
            x.scan(0, i);
        }
        return x;
    }

    private static void fortyLabels(Edges all) {
        Edges.Sentence s = all.sentence(18, "UnsupportedOperationException: forty different ones were scanned (and not "
                + "refused by a station) and it is not one of these");
        s.edge("the fortieth is scanned", () -> {
            ScanCodes x = codes();
            for (int i = 0; i < 40; i++) {
                int n = i;
                Due.apart(x, "10" + n / 10 + n % 10);
                Due.is("label " + n, 1, () -> x.scan(0, n));
                Due.is("count(6)", n + 1, () -> x.count(6));
            }
        }, SCAN, FULL, "place == NONE && scans.size() >= 39");
        s.edge("a forty-first is not", () -> {
            ScanCodes x = withForty();
            Due.apart(x, "1040");
            Due.refused("scan(0, 39)", Due.NO_ROOM, () -> x.scan(0, 39));
            Due.refused("scan(7, 900)", Due.NO_ROOM, () -> x.scan(7, 900));
            Due.is("count(6)", 40, () -> x.count(6));
        }, SCAN, FULL, "place == NONE && scans.size() > MAX_LABELS");
        s.edge("the first and the last of the forty are", () -> {
            ScanCodes x = withForty();
            Due.apart(x, "1039");
            Due.is("the last, doubled", 0, () -> x.scan(0, 39));
            Due.is("the last, elsewhere", 1, () -> x.scan(7, 39));
            Due.apart(x, "1000");
            Due.is("the first, again", 1, () -> x.scan(0, 39));
            Due.is("count(6)", 40, () -> x.count(6));
        }, SCAN, FULL, "scans.isFull()");
        s.edge("one refused by a station is none of the forty", () -> {
            ScanCodes x = apart("2012");
            Due.is("refused", -1, () -> x.scan(0, 0));
            for (int i = 0; i < 40; i++) {
                int n = i;
                Due.apart(x, "10" + n / 10 + n % 10);
                Due.is("label " + n, 1, () -> x.scan(0, n));
            }
            Due.apart(x, "2012");
            Due.refused("the refused one", Due.NO_ROOM, () -> x.scan(2, 39));
        }, SCAN, REFUSED, "if (strange != NONE) { if (place == NONE) { scans.add(label); } return");
        s.edge("one of the forty counts once, at however many stations", () -> {
            ScanCodes x = apart("1000");
            for (int i = 0; i < 8; i++) {
                x.scan(i, 0);
            }
            for (int i = 0; i < 40; i++) {
                int n = i;
                Due.apart(x, "10" + n / 10 + n % 10);
                Due.is("label " + n, n == 0 ? 0 : 1, () -> x.scan(0, n));
            }
        }, SCAN, "if (place == NONE) {", "if (place == NONE || (station == 7 && !scans.isFull())) {");
    }

    private static void fortyOrder(Edges all) {
        Edges.Sentence s = all.sentence(18, "asked before its stations");
        s.edge("a forty-first at another station", () -> {
            ScanCodes x = withForty();
            Due.apart(x, "2012");
            Due.refused("another station", Due.NO_ROOM, () -> x.scan(0, 39));
            Due.refused("its own", Due.NO_ROOM, () -> x.scan(2, 39));
        }, SCAN, "if (" + FULL + ")", "if (" + FULL + " && firstStrange(label, station) == NONE)");
        s.edge("one of the forty at another station", () -> {
            ScanCodes x = withForty();
            x.prefix(10, 4, false, 3);
            Due.apart(x, "1000");
            Due.is("another station", -1, () -> x.scan(0, 39));
            Due.is("its own", 1, () -> x.scan(3, 39));
        }, SCAN, FULL, "scans.isFull() && (place == NONE || firstStrange(label, station) != NONE)");
    }

    private static void scanOrder(Edges all) {
        Edges.Sentence s = all.sentence(18, "REFUSALS, the first that holds");
        s.edge("a number outside its range comes before nothing taken apart", () -> {
            ScanCodes x = codes();
            Due.refused("station 8", Due.ARGUMENT, () -> x.scan(8, 0));
            Due.refused("station -1", Due.ARGUMENT, () -> x.scan(-1, 0));
            Due.refused("second -1", Due.ARGUMENT, () -> x.scan(0, -1));
        }, SCAN, "if (" + NOT_STATION, "if (taker.fields().size() == 0) { throw new IllegalStateException(); } "
                + "if (" + NOT_STATION);
        s.edge("a second before the last comes before nothing taken apart", () -> {
            ScanCodes x = apart("101");
            x.scan(0, 5);
            x.clear();
            Due.refused("second 4", Due.ARGUMENT, () -> x.scan(0, 4));
            Due.refused("second 5", Due.STATE, () -> x.scan(0, 5));
        }, SCAN, BEFORE, BEFORE + " && taker.fields().size() > 0");
        s.edge("a number outside its range comes before no room", () -> {
            ScanCodes x = withForty();
            Due.apart(x, "1040");
            Due.refused("station 8", Due.ARGUMENT, () -> x.scan(8, 39));
            Due.refused("second 38", Due.ARGUMENT, () -> x.scan(0, 38));
        }, SCAN, "if (" + NOT_STATION, "if (scans.isFull() && scans.placeOf(taker.fields()) == NONE) "
                + "{ throw new UnsupportedOperationException(); } if (" + NOT_STATION);
        s.edge("nothing taken apart comes before no room", () -> {
            ScanCodes x = withForty();
            x.clear();
            Due.refused("scan(0, 39)", Due.STATE, () -> x.scan(0, 39));
        }, SCAN, "if (label.size() == 0) {",
                "if (scans.isFull() && label.size() == 0) { throw new UnsupportedOperationException(); } "
                        + "if (label.size() == 0) {");
    }

    private static void countNew(Edges all) {
        Edges.Sentence s = all.sentence(19, "0 prefixes, 1 fields of the label that is written, 2 modules of the one "
                + "made last, 3 modules read, 4 signs typed");
        s.edge("none of all in a new object", () -> {
            ScanCodes x = new ScanCodes(0);
            for (int what = 0; what <= 7; what++) {
                int n = what;
                Due.is("count(" + n + ")", 0, () -> x.count(n));
            }
        }, COUNT, "return written.size();", "return Math.max(1, written.size());");
        s.edge("each has its own number", () -> {
            ScanCodes x = Edges.fixed(1, 90, 1, 91, 1);
            x.field(90, 1, 1);
            x.make();
            x.read(0);
            x.read(0);
            x.read(0);
            Due.type(x, "9015");
            int[] due = {2, 1, 28, 3, 4, 0, 0, 1};
            for (int what = 0; what < due.length; what++) {
                int n = what;
                Due.is("count(" + n + ")", due[n], () -> x.count(n));
            }
        }, COUNT, "case 3: return modulesRead.size();", "case 3: return signsTyped.size();");
        Edges.Sentence form = all.sentence(19, "7 the form");
        form.edge("0 and 2, and what was beyond them", () -> {
            int[][] rows = {{-1, 0}, {0, 0}, {1, 1}, {2, 2}, {3, 2}};
            for (int[] row : rows) {
                Due.is("count(7) of form " + row[0], row[1], () -> new ScanCodes(row[0]).count(7));
            }
        }, COUNT, "case 7: return coder.form();", "case 7: return Math.min(1, coder.form());");
    }

    private static void countMost(Edges all) {
        Edges.Sentence s = all.sentence(19, "0 prefixes, 1 fields of the label that is written, 2 modules of the one "
                + "made last, 3 modules read, 4 signs typed");
        s.edge("sixteen prefixes", () -> {
            ScanCodes x = new ScanCodes(0);
            for (int prefix = 10; prefix < 26; prefix++) {
                x.prefix(prefix, 1, true, -1);
            }
            Due.is("count(0)", 16, () -> x.count(0));
        }, COUNT, "case 0: return prefixes.size();", "case 0: return Math.min(15, prefixes.size());");
        s.edge("six fields", () -> {
            ScanCodes x = codes();
            for (int prefix = 90; prefix < 96; prefix++) {
                x.field(prefix, 1, 1);
            }
            Due.is("count(1)", 6, () -> x.count(1));
        }, COUNT, "case 1: return written.size();", "case 1: return Math.min(5, written.size());");
        s.edge("420 modules made", () -> {
            ScanCodes x = Edges.loose(1, 30, 12, 31, 12, 32, 12, 33, 12);
            for (int prefix = 30; prefix < 34; prefix++) {
                x.field(prefix, 1, 12);
            }
            x.make();
            Due.is("count(2)", 420, () -> x.count(2));
        }, COUNT, "case 2: return made.size();", "case 2: return Math.min(419, made.size());");
        s.edge("420 modules read", () -> {
            ScanCodes x = codes();
            for (int i = 0; i < 420; i++) {
                x.read(2);
            }
            Due.is("count(3)", 420, () -> x.count(3));
        }, COUNT, "case 3: return modulesRead.size();", "case 3: return Math.min(419, modulesRead.size());");
        s.edge("60 signs typed", () -> {
            ScanCodes x = codes();
            for (int i = 0; i < 60; i++) {
                x.typed(10);
            }
            Due.is("count(4)", 60, () -> x.count(4));
        }, COUNT, "case 4: return signsTyped.size();", "case 4: return Math.min(59, signsTyped.size());");
        s.edge("refused calls are not counted", () -> {
            ScanCodes x = codes();
            Due.refused("prefix", Due.ARGUMENT, () -> x.prefix(9, 1, true, -1));
            Due.refused("field", Due.ARGUMENT, () -> x.field(90, 10, 1));
            Due.refused("make", Due.STATE, () -> x.make());
            Due.refused("read", Due.ARGUMENT, () -> x.read(3));
            Due.refused("typed", Due.ARGUMENT, () -> x.typed(11));
            int[] due = {10, 0, 0, 0, 0, 0, 0, 1};
            for (int what = 0; what < due.length; what++) {
                int n = what;
                Due.is("count(" + n + ")", due[n], () -> x.count(n));
            }
        }, "public int make()", "throw new IllegalStateException(",
                "made.add(0); throw new IllegalStateException(");
    }

    private static void countOthers(Edges all) {
        Edges.Sentence s = all.sentence(19, "-1 for another what");
        s.edge("-1", () -> otherWhat(-1), COUNT, "default: return -1;", "default: return what == -1 ? 0 : -1;");
        s.edge("the least number", () -> otherWhat(Integer.MIN_VALUE), COUNT, "default: return -1;",
                "default: return Math.min(-1, what);");
        s.edge("8", () -> otherWhat(8), COUNT, "default: return -1;", "case 8: return 0; default: return -1;");
        s.edge("the greatest number", () -> otherWhat(Integer.MAX_VALUE), COUNT, "default: return -1;",
                "default: return what > 8 ? 0 : -1;");
    }

    private static void otherWhat(int what) {
        ScanCodes x = apart("101");
        Due.is("count(" + what + ")", -1, () -> x.count(what));
    }

    private static void countFull(Edges all) {
        Edges.Sentence s = all.sentence(19, "5 fields taken apart (0 if they could not be)");
        s.edge("six", () -> {
            ScanCodes x = apart(SIX);
            Due.is("count(5)", 6, () -> x.count(5));
        }, COUNT, "case 5: return taker.fields().size();", "case 5: return Math.min(5, taker.fields().size());");
        s.edge("0 if the seventh was one too many", () -> {
            ScanCodes x = apart(SIX + "101");
            Due.is("count(5)", 0, () -> x.count(5));
        }, "int takeApart(", "fields.empty();", "if (wrong != TOO_MANY_FIELDS) { fields.empty(); }");
        s.edge("0 if the second was wrong", () -> {
            ScanCodes x = apart("101/991");
            Due.is("count(5)", 0, () -> x.count(5));
        }, "int takeApart(", "fields.empty();", "if (wrong != WRONG_PREFIX) { fields.empty(); }");
        s.edge("0 if a need is not there", () -> {
            ScanCodes x = codes();
            x.needs(10, 40);
            Due.apart(x, "101");
            Due.is("count(5)", 0, () -> x.count(5));
        }, "int takeApart(", "fields.empty();", "if (wrong != NEED_MISSING) { fields.empty(); }");
        s.edge("0 if a sign could not be mended", () -> {
            ScanCodes x = apart("101");
            Due.read(x, "???0000");
            x.parse();
            Due.is("count(5)", 0, () -> x.count(5));
        }, "public int parse()", "taker.forget();", "");
    }

    private static void countLabels(Edges all) {
        Edges.Sentence s = all.sentence(19,
                "6 different labels that were scanned (not those refused by a station each time)");
        s.edge("not one that is refused", () -> {
            ScanCodes x = apart("2012");
            Due.is("refused", -1, () -> x.scan(1, 0));
            Due.is("refused again", -1, () -> x.scan(3, 0));
            Due.is("count(6)", 0, () -> x.count(6));
        }, SCAN, REFUSED, "if (strange != NONE) { if (place == NONE) { scans.add(label); } return");
        s.edge("one that is refused but once", () -> {
            ScanCodes x = apart("2012");
            x.scan(1, 0);
            x.scan(2, 0);
            x.scan(3, 0);
            Due.is("count(6)", 1, () -> x.count(6));
        }, SCAN, "if (place == NONE) { place = scans.add(label); }",
                "if (place == NONE && label.prefixAt(0) != 20) { place = scans.add(label); }");
        s.edge("a doubled one is one", () -> {
            ScanCodes x = apart("101");
            x.scan(0, 0);
            x.scan(0, 0);
            x.scan(1, 0);
            x.scan(0, 11);
            Due.is("count(6)", 1, () -> x.count(6));
        }, SCAN, "if (place == NONE) {", "if (place == NONE || second == 0) {");
        s.edge("forty, and no more", () -> {
            ScanCodes x = withForty();
            Due.is("count(6)", 40, () -> x.count(6));
            Due.apart(x, "1040");
            Due.refused("a forty-first", Due.NO_ROOM, () -> x.scan(0, 50));
            Due.is("count(6)", 40, () -> x.count(6));
        }, COUNT, "case 6: return scans.size();", "case 6: return Math.min(39, scans.size());");
    }

    private static void calls(Edges all) {
        Edges.Sentence s = all.sentence(19, "An object is used for at most 512 calls after it has been made");
        s.edge("the 512th is answered too", () -> {
            ScanCodes x = Edges.fixed(1, 16, 1);
            // One call so far; 420, 60 and 29 more are 510.
            for (int i = 0; i < 420; i++) {
                x.read(0);
            }
            for (int i = 0; i < 60; i++) {
                x.typed(i % 10);
            }
            for (int i = 0; i < 29; i++) {
                x.count(0);
            }
            Due.is("the 511th", 420, () -> x.count(3));
            Due.is("the 512th", 60, () -> x.count(4));
        }, COUNT, "case 4: return signsTyped.size();",
                "case 4: return modulesRead.isFull() && signsTyped.isFull() ? 0 : signsTyped.size();");
    }
}
