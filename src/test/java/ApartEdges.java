/** Boundary cases of taking apart (Terms), as promise 12 (parseTyped) uses it; promise 11 goes the same way. */
final class ApartEdges {
    private static final String FIRST = "private int firstWrong(";
    private static final String FIELD = "private int takeField(";
    private static final String FIXED = "private int takeFixed(";
    private static final String LOOSE = "private int takeLoose(";
    private static final String NEEDS = "private boolean needsAreThere(";
    private static final String SHORT = "signs.size() < MIN_SIGNS";
    private static final String CHECKED = "signs.at(end) != checkSign(signs, end)";
    private static final String SIX = "900911922933944955";

    private ApartEdges() {
    }

    static void addTo(Edges all) {
        fewerThanFour(all);
        lastSeparator(all);
        wrongCheck(all);
        moreThanSix(all);
        twoSigns(all);
        knownPrefix(all);
        thereBefore(all);
        fixedLength(all);
        looseLength(all);
        fixedSeparator(all);
        lastLooseSeparator(all);
        lengthFirst(all);
        missingNeed(all);
        fieldByField(all);
    }

    private static ScanCodes codes() {
        ScanCodes x = Edges.fixed(1, 15, 2, 16, 1, 90, 1, 91, 1, 92, 1, 93, 1, 94, 1, 95, 1);
        return Edges.with(x, false, 25, 12, 26, 3, 20, 1);
    }

    /** What parseTyped() is due to answer for signs with their check sign behind them. */
    private static void apart(String signs, int due) {
        ScanCodes x = codes();
        Due.is(signs, due, () -> Due.apart(x, signs));
        Due.is(signs + ": count(5)", Math.max(0, due), () -> x.count(5));
    }

    /** The same for signs just as they are. */
    private static void whole(String signs, int due) {
        ScanCodes x = codes();
        Due.type(x, signs);
        Due.is(signs + " as it is", due, () -> x.parseTyped());
    }

    private static void fewerThanFour(Edges all) {
        Edges.Sentence s = all.sentence(12, "-1 there are fewer than 4, or the last one is a separator");
        s.edge("one sign", () -> {
            whole("0", -1);
            whole("/", -1);
        }, FIRST, SHORT, SHORT + " && signs.size() > 1");
        s.edge("three signs", () -> apart("16", -1), FIRST, SHORT, "signs.size() < 3");
        s.edge("four signs are enough", () -> whole("1694", 1), FIRST, SHORT, "signs.size() < 5");
        s.edge("three signs, the check sign is wrong too", () -> whole("165", -1), FIRST, "if (" + SHORT,
                "if (end > 0 && " + CHECKED + ") { return WRONG_CHECK; } if (" + SHORT);
        s.edge("three signs, the last is a separator too", () -> whole("16/", -1), FIRST, "if (" + SHORT,
                "if (signs.size() == 3 && signs.at(end) == SEPARATOR) { return -6; } if (" + SHORT);
    }

    private static void lastSeparator(Edges all) {
        Edges.Sentence s = all.sentence(12, "-1 there are fewer than 4, or the last one is a separator");
        s.edge("a separator at the end", () -> whole("169/", -1), FIRST, "|| signs.at(end) == SEPARATOR", "");
        // 3 * 4 + 1 + 3 * 9 = 40, and a separator counts as 10.
        s.edge("a separator at the end where 0 is due", () -> whole("914/", -1), FIRST, "signs.at(end) == SEPARATOR",
                "(signs.at(end) == SEPARATOR && checkSign(signs, end) != 0)");
        s.edge("a separator before the check sign is none at the end", () -> apart("251/", -6), FIRST,
                "signs.at(end) == SEPARATOR", "signs.at(end - 1) == SEPARATOR");
    }

    private static void wrongCheck(Edges all) {
        Edges.Sentence s = all.sentence(12, "-2 the check sign is wrong");
        s.edge("one more than is due", () -> whole("1695", -2), FIRST, CHECKED,
                CHECKED + " && signs.at(end) != checkSign(signs, end) + 1");
        s.edge("one less than is due", () -> whole("1693", -2), FIRST, CHECKED,
                CHECKED + " && signs.at(end) != checkSign(signs, end) - 1");
        s.edge("0 where 9 is due", () -> {
            // 3 * 1 + 1 + 3 * 9 = 31.
            whole("9119", 1);
            whole("9110", -2);
        }, FIRST, CHECKED, "signs.at(end) % 9 != checkSign(signs, end) % 9");
        s.edge("9 where 0 is due", () -> {
            // 3 * 4 + 1 + 3 * 9 = 40.
            whole("9140", 1);
            whole("9149", -2);
        }, FIRST, CHECKED, CHECKED + " && signs.at(end) != 9");
        s.edge("it comes before a prefix that is not known", () -> whole("9990", -2), FIRST, "if (" + CHECKED,
                "if (!prefixes.has((int) signs.numberAt(0, 2))) { return WRONG_PREFIX; } if (" + CHECKED);
        s.edge("it comes before what a separator does wrong", () -> whole("251/0", -2), FIRST, "if (" + CHECKED,
                "if (signs.at(end - 1) == SEPARATOR) { return WRONG_SEPARATOR; } if (" + CHECKED);
    }

    private static void moreThanSix(Edges all) {
        Edges.Sentence s = all.sentence(12, "-3 there were six before");
        s.edge("six fields", () -> apart(SIX, 6), FIRST, "i < MAX_FIELDS", "i < 5");
        s.edge("seven fields", () -> apart(SIX + "161", -3), FIRST, "i < MAX_FIELDS", "i <= MAX_FIELDS");
        s.edge("six fields and one sign", () -> apart(SIX + "1", -3), FIRST, "{ return TOO_MANY_FIELDS; }",
                "{ return at == end - 1 ? WRONG_PREFIX : TOO_MANY_FIELDS; }");
        s.edge("six fields and a separator", () -> apart(SIX + "/", -3), FIRST, "{ return TOO_MANY_FIELDS; }",
                "{ return signs.at(at) == SEPARATOR ? WRONG_SEPARATOR : TOO_MANY_FIELDS; }");
        s.edge("six fields and a prefix that is not known", () -> apart(SIX + "991", -3), FIRST,
                "{ return TOO_MANY_FIELDS; }",
                "{ return prefixes.has((int) signs.numberAt(at, at + 2)) ? TOO_MANY_FIELDS : WRONG_PREFIX; }");
        s.edge("six fields and a prefix that was there before", () -> apart(SIX + "901", -3), FIRST,
                "{ return TOO_MANY_FIELDS; }",
                "{ return fields.has((int) signs.numberAt(at, at + 2)) ? WRONG_PREFIX : TOO_MANY_FIELDS; }");
        s.edge("six fields, the sixth not fixed, and a sign behind its separator", () -> {
            apart("900911922933944251", 6);
            apart("900911922933944251/1", -3);
            apart("900911922933944251/", -6);
        }, LOOSE, "return stop < end ? stop + 1 : end;", "return fields.size() == 6 ? end : stop + 1;");
    }

    private static void twoSigns(Edges all) {
        Edges.Sentence s = all.sentence(12,
                "-4 the next two signs (before the check sign) are no digits of a known prefix");
        s.edge("only one is left, which with the check sign would be one", () -> {
            // 16 9 1: 3 * 1 + 9 + 3 * 6 + 1 = 31, so that 1 and the check sign 9 stand at the end.
            ScanCodes x = Edges.with(codes(), true, 19, 1);
            Due.is("16 9 1", -4, () -> Due.apart(x, "1691"));
        }, FIELD, "from > end", "from > end + 1");
        s.edge("the first is a separator", () -> {
            apart("/516", -4);
            apart("169/516", -4);
        }, FIELD, "{ return WRONG_PREFIX; } int prefix",
                "{ return signs.at(at) == SEPARATOR ? WRONG_SEPARATOR : WRONG_PREFIX; } int prefix");
        // 1 and a separator, taken as a number, would be 20.
        s.edge("the second is a separator", () -> {
            apart("1/1", -4);
            apart("1691/1", -4);
        }, FIELD, "signs.nextSeparator(at, from) < from", "signs.at(at) == SEPARATOR");
        s.edge("a separator behind a fixed field", () -> apart("169/151", -4), FIXED, "return stop;",
                "return signs.at(stop) == SEPARATOR ? stop + 1 : stop;");
        s.edge("two separators behind another field", () -> apart("251//161", -4), LOOSE,
                "return stop < end ? stop + 1 : end;",
                "return stop < end ? signs.at(stop + 1) == SEPARATOR ? stop + 2 : stop + 1 : end;");
        s.edge("one sign behind a separator", () -> apart("251/1", -4), LOOSE, "stop == end - 1",
                "stop < end && stop >= end - 2");
    }

    private static void knownPrefix(Edges all) {
        Edges.Sentence s = all.sentence(12,
                "-4 the next two signs (before the check sign) are no digits of a known prefix");
        s.edge("a prefix that is not known", () -> {
            apart("9916", -4);
            apart("169991", -4);
        }, FIELD, "unknown = prefix; return WRONG_PREFIX;", "unknown = prefix; return WRONG_LENGTH;");
        s.edge("digits below 10", () -> {
            apart("0000", -4);
            apart("0916", -4);
        }, FIELD, "if (!prefixes.has(prefix))", "if (prefix >= MIN_PREFIX && !prefixes.has(prefix))");
        s.edge("10 and 99, the ends", () -> {
            ScanCodes x = Edges.fixed(1, 10, 1, 99, 1);
            Due.is("both", 2, () -> Due.apart(x, "101991"));
        }, FIELD, "if (!prefixes.has(prefix))", "if (!prefixes.has(prefix) || prefix == 10 || prefix == 99)");
        s.edge("as it is known now", () -> {
            ScanCodes x = codes();
            Due.is("not yet", -4, () -> Due.apart(x, "991"));
            x.prefix(99, 1, true, -1);
            Due.is("now", 1, () -> x.parseTyped());
        }, FIELD, "if (!prefixes.has(prefix))", "if (!prefixes.has(prefix) || prefix == 99)");
    }

    private static void thereBefore(Edges all) {
        Edges.Sentence s = all.sentence(12, "or it was there before");
        s.edge("the field just before", () -> {
            apart("169161", -4);
            apart("251/251", -4);
        }, FIELD, "if (fields.has(prefix))", "if (prefix < 0)");
        s.edge("the first of five", () -> apart("900911922933944901", -4), FIELD, "if (fields.has(prefix))",
                "if (fields.has(prefix) && fields.prefixAt(0) != prefix)");
        s.edge("it comes before its length", () -> {
            apart("169251/16", -4);
            apart("15121512/", -4);
        }, FIELD, "if (fields.has(prefix))", "if (fields.has(prefix) && end - from >= prefixes.lengthOf(prefix))");
        s.edge("what was taken apart last was not", () -> {
            ScanCodes x = codes();
            Due.is("taken apart", 1, () -> Due.apart(x, "169"));
            Due.is("again", 1, () -> x.parseTyped());
        }, "int takeApart(", "forget();", "");
    }

    private static void fixedLength(Edges all) {
        Edges.Sentence s = all.sentence(12, "-5 there are fewer signs left than a fixed prefix's length");
        s.edge("none left", () -> {
            apart("16915", -5);
            apart("151216", -5);
        }, FIXED, "end - from < length", "end - from < length && end > from");
        s.edge("one fewer: the check sign is none of them", () -> {
            apart("151", -5);
            apart("169151", -5);
        }, FIXED, "end - from < length", "end - from + 1 < length");
        s.edge("just as many", () -> {
            apart("1512", 1);
            apart("1691512", 2);
        }, FIXED, "end - from < length", "end - from <= length");
        s.edge("twelve, and eleven", () -> {
            ScanCodes x = Edges.fixed(1, 10, 12);
            Due.is("twelve", 1, () -> Due.apart(x, "10123456789012"));
            Due.is("eleven", -5, () -> Due.apart(x, "1012345678901"));
        }, FIXED, "end - from < length", "end - from < Math.min(length, 11)");
        s.edge("one more is the next field's", () -> apart("15123", -4), FIXED, "return stop;",
                "return stop == end - 1 ? end : stop;");
    }

    private static void looseLength(Edges all) {
        Edges.Sentence s = all.sentence(12, "or the digits of another one, up to the next separator or the check sign, "
                + "are none or more than its length");
        s.edge("none up to the next separator", () -> {
            apart("25/161", -5);
            apart("16926/161", -5);
        }, LOOSE, "digits < 1", "(digits < 1 && stop == end)");
        s.edge("none up to the check sign", () -> apart("16925", -5), LOOSE, "digits < 1",
                "(digits < 1 && stop < end)");
        s.edge("one up to the next separator", () -> apart("251/161", 2), LOOSE, "digits < 1",
                "(digits < (stop < end ? 2 : 1))");
        s.edge("one up to the check sign", () -> apart("251", 1), LOOSE, "digits < 1",
                "(digits < (stop < end ? 1 : 2))");
        s.edge("just its length up to the next separator", () -> {
            apart("26123/161", 2);
            apart("25123456789012/161", 2);
        }, LOOSE, "digits > prefixes.lengthOf(prefix)", "digits >= prefixes.lengthOf(prefix) + (stop < end ? 0 : 1)");
        s.edge("just its length up to the check sign", () -> {
            apart("26123", 1);
            apart("25123456789012", 1);
        }, LOOSE, "digits > prefixes.lengthOf(prefix)", "digits >= prefixes.lengthOf(prefix) + (stop < end ? 1 : 0)");
        s.edge("one more up to the next separator", () -> {
            apart("261234/161", -5);
            apart("251234567890123/161", -5);
        }, LOOSE, "digits > prefixes.lengthOf(prefix)", "digits > prefixes.lengthOf(prefix) + (stop < end ? 1 : 0)");
        s.edge("one more up to the check sign", () -> {
            apart("261234", -5);
            apart("251234567890123", -5);
        }, LOOSE, "digits > prefixes.lengthOf(prefix)", "digits > prefixes.lengthOf(prefix) + (stop < end ? 0 : 1)");
        s.edge("a length of one", () -> {
            apart("201", 1);
            apart("2012", -5);
            apart("2012/161", -5);
        }, LOOSE, "digits > prefixes.lengthOf(prefix)", "digits > Math.max(2, prefixes.lengthOf(prefix))");
    }

    private static void fixedSeparator(Edges all) {
        Edges.Sentence s = all.sentence(12, "-6 one of a fixed field's signs is a separator");
        s.edge("the first of them", () -> {
            apart("15/1", -6);
            apart("15/1161", -6);
        }, FIXED, "signs.nextSeparator(from, stop) < stop", "signs.nextSeparator(from + 1, stop) < stop");
        s.edge("the last of them, just before the check sign", () -> apart("151/", -6), FIXED,
                "signs.nextSeparator(from, stop) < stop", "signs.nextSeparator(from, stop - 1) < stop - 1");
        s.edge("the only one", () -> {
            apart("16/", -6);
            apart("16/151", -6);
        }, FIXED, "signs.nextSeparator(from, stop) < stop", "length > 1 && signs.nextSeparator(from, stop) < stop");
        s.edge("one in the middle", () -> {
            ScanCodes x = Edges.fixed(1, 10, 12);
            Due.is("10 12345/789012", -6, () -> Due.apart(x, "1012345/789012"));
        }, FIXED, "signs.nextSeparator(from, stop) < stop",
                "signs.at(from) == SEPARATOR || signs.at(stop - 1) == SEPARATOR");
        s.edge("all of them", () -> apart("15//", -6), FIXED, "signs.nextSeparator(from, stop) < stop",
                "signs.nextSeparator(from, stop) < stop && signs.at(from) != signs.at(stop - 1)");
    }

    private static void lastLooseSeparator(Edges all) {
        Edges.Sentence s = all.sentence(12, "or a separator behind another field stands just before the check sign");
        s.edge("one digit and a separator", () -> apart("251/", -6), LOOSE, "stop == end - 1", "stop == end + 1");
        s.edge("just its length and a separator", () -> {
            apart("26123/", -6);
            apart("25123456789012/", -6);
        }, LOOSE, "stop == end - 1", "stop == end - 1 && digits < prefixes.lengthOf(prefix)");
        s.edge("behind a field before", () -> {
            apart("169251/", -6);
            apart("251/261/", -6);
        }, LOOSE, "stop == end - 1", "stop == end - 1 && fields.size() == 0");
        s.edge("not just before it", () -> apart("251/161", 2), LOOSE, "stop == end - 1", "stop < end");
        s.edge("no separator there", () -> apart("251", 1), LOOSE, "stop == end - 1", "stop >= end - 1");
    }

    private static void lengthFirst(Edges all) {
        Edges.Sentence s = all.sentence(12, "TAKING APART signs (what holds first)");
        s.edge("too few of a fixed field, one a separator: -5", () -> {
            apart("15/", -5);
            apart("16915/", -5);
        }, FIXED, "if (end - from < length)",
                "if (signs.nextSeparator(from, end) < end) { return WRONG_SEPARATOR; } if (end - from < length)");
        s.edge("no digits of another field, a separator before the check sign: -5", () -> {
            apart("25/", -5);
            apart("16925/", -5);
        }, LOOSE, "if (digits < 1", "if (stop == end - 1) { return WRONG_SEPARATOR; } if (digits < 1");
        s.edge("too many digits of another field, a separator before the check sign: -5", () -> apart("261234/", -5),
                LOOSE, "if (digits < 1",
                "if (digits > 1 && stop == end - 1) { return WRONG_SEPARATOR; } if (digits < 1");
        s.edge("a need that is not there comes at last", () -> {
            ScanCodes x = codes();
            x.needs(16, 90);
            Due.is("a wrong check sign first", -2, () -> {
                Due.type(x, "1695");
                return x.parseTyped();
            });
            Due.is("a prefix first", -4, () -> Due.apart(x, "169991"));
            Due.is("a length first", -5, () -> Due.apart(x, "169151"));
            Due.is("a separator first", -6, () -> Due.apart(x, "169251/"));
        }, FIRST, "if (at < 0) { return at; }", "if (at < 0) { return needsAreThere() ? at : NEED_MISSING; }");
        s.edge("six before a need", () -> {
            ScanCodes x = codes();
            x.needs(90, 16);
            Due.is("seven fields", -3, () -> Due.apart(x, SIX + "161"));
            Due.is("six fields", -7, () -> Due.apart(x, SIX));
        }, FIRST, "{ return TOO_MANY_FIELDS; }", "{ return needsAreThere() ? TOO_MANY_FIELDS : NEED_MISSING; }");
    }

    private static void missingNeed(Edges all) {
        Edges.Sentence s = all.sentence(12, "At last -7 a prefix of the label needs another one that is not there");
        s.edge("the only field", () -> {
            ScanCodes x = codes();
            x.needs(16, 90);
            Due.is("16 alone", -7, () -> Due.apart(x, "169"));
            Due.is("count(5)", 0, () -> x.count(5));
        }, FIRST, "return needsAreThere() ? 0 : NEED_MISSING;", "return 0;");
        s.edge("the first of six", () -> {
            ScanCodes x = codes();
            x.needs(90, 16);
            Due.is("16 is not there", -7, () -> Due.apart(x, SIX));
        }, NEEDS, "int i = 0;", "int i = 1;");
        s.edge("the last of six", () -> {
            ScanCodes x = codes();
            x.needs(95, 16);
            Due.is("16 is not there", -7, () -> Due.apart(x, SIX));
        }, NEEDS, "i < fields.size();", "i < fields.size() - 1;");
        s.edge("the other stands behind", () -> {
            ScanCodes x = codes();
            x.needs(90, 95);
            Due.is("six fields", 6, () -> Due.apart(x, SIX));
        }, NEEDS, "!fields.has(need)", "fields.prefixAt(0) != need");
        s.edge("the other stands in front", () -> {
            ScanCodes x = codes();
            x.needs(95, 90);
            Due.is("six fields", 6, () -> Due.apart(x, SIX));
        }, NEEDS, "!fields.has(need)", "fields.prefixAt(fields.size() - 1) != need");
        s.edge("one that is not known can not be there", () -> {
            ScanCodes x = codes();
            x.needs(16, 99);
            Due.is("16 alone", -7, () -> Due.apart(x, "169"));
        }, NEEDS, "need != NO_NEED", "prefixes.has(need)");
        s.edge("none is needed", () -> apart("169", 1), NEEDS, "need != NO_NEED &&", "");
        s.edge("as it is needed now", () -> {
            ScanCodes x = codes();
            Due.is("no need", 1, () -> Due.apart(x, "169"));
            x.needs(16, 90);
            Due.is("a need", -7, () -> x.parseTyped());
            x.needs(16, 0);
            Due.is("none any more", 1, () -> x.parseTyped());
        }, NEEDS, "need != NO_NEED", "need < NO_NEED");
    }

    private static void fieldByField(Edges all) {
        Edges.Sentence s = all.sentence(12, "then from the front, till the check sign, field by field");
        s.edge("the first field that is wrong tells", () -> {
            apart("151/99", -6);
            apart("99151/", -4);
            apart("25/9916", -5);
        }, FIRST, "if (at < 0) { return at; }",
                "if (at < 0) { return signs.at(end - 2) == 9 ? WRONG_PREFIX : at; }");
        s.edge("the last field may end just before the check sign", () -> apart("25123/1691512", 3), FIRST,
                "if (at < end) { return", "if (at <= end) { return");
        Edges.Sentence number = all.sentence(12, "Else the number of fields");
        number.edge("one", () -> apart("169", 1), "int takeApart(", "return fields.size();",
                "return Math.max(2, fields.size());");
        number.edge("six", () -> apart(SIX, 6), "int takeApart(", "return fields.size();",
                "return Math.min(5, fields.size());");
    }
}
