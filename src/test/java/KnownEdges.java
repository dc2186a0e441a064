/** Boundary cases of promises 14 (known), 15 (value) and 17 (hint). */
final class KnownEdges {
    private static final String KNOWN = "public int known(";
    private static final String VALUE = "public long value(";
    private static final String HINT = "public int hint(";
    private static final String NEAR = "int nearTo(";
    private static final String TAKE = "int takeApart(";
    private static final String FIELD = "private int takeField(";
    private static final String DIFFER = "boolean differInOneDigit(";
    private static final String TOO_GREAT = "i >= taker.fields().size()";
    private static final String SIX = "900911922933944955";
    private static final String NO_FIELD = "NoSuchElementException: a field or prefix that there is not";

    private KnownEdges() {
    }

    static void addTo(Edges all) {
        knownIndex(all);
        knownWhat(all);
        knownDigits(all);
        onlyIfItCould(all);
        valueIndex(all);
        valueNumbers(all);
        hintRange(all);
        hintNumber(all);
        hintOtherWrongs(all);
        hintNoDigits(all);
        hintOneDigit(all);
        hintLast(all);
    }

    private static ScanCodes codes() {
        ScanCodes x = Edges.fixed(1, 15, 2, 16, 1, 90, 1, 91, 1, 92, 1, 93, 1, 94, 1, 95, 1);
        return Edges.with(x, false, 25, 12, 26, 3);
    }

    private static ScanCodes apart(String signs) {
        ScanCodes x = codes();
        Due.apart(x, signs);
        return x;
    }

    private static void noField(ScanCodes x, int i) {
        Due.refused("known(" + i + ", 0)", Due.NO_SUCH, () -> x.known(i, 0));
        Due.refused("known(" + i + ", 1)", Due.NO_SUCH, () -> x.known(i, 1));
    }

    private static void knownIndex(Edges all) {
        Edges.Sentence s = all.sentence(14, "NoSuchElementException: there is none");
        s.edge("nothing was taken apart", () -> noField(codes(), 0), KNOWN, "if (i < 0",
                "if (i == 0 && taker.fields().size() == 0) { return 0; } if (i < 0");
        s.edge("-1", () -> noField(apart("169"), -1), KNOWN, "i < 0", "i < -1");
        s.edge("the least number", () -> noField(apart("169"), Integer.MIN_VALUE), KNOWN, "i < 0", "i == -1");
        s.edge("the first is there", () -> {
            ScanCodes x = apart("169");
            Due.is("known(0, 0)", 16, () -> x.known(0, 0));
            Due.is("known(0, 1)", 1, () -> x.known(0, 1));
        }, KNOWN, "i < 0", "i <= 0");
        s.edge("one behind the only one", () -> noField(apart("169"), 1), KNOWN, TOO_GREAT,
                "i > taker.fields().size()");
        s.edge("the last of six is there", () -> {
            ScanCodes x = apart(SIX);
            Due.is("known(5, 0)", 95, () -> x.known(5, 0));
            Due.is("known(5, 1)", 1, () -> x.known(5, 1));
        }, KNOWN, TOO_GREAT, "i >= Math.min(5, taker.fields().size())");
        s.edge("one behind the last of six", () -> noField(apart(SIX), 6), KNOWN, TOO_GREAT,
                "i >= taker.fields().size() + taker.fields().size() / 6");
        s.edge("the greatest number", () -> noField(apart("169"), Integer.MAX_VALUE), KNOWN, TOO_GREAT,
                "i == taker.fields().size()");
        s.edge("one that an earlier label had", () -> {
            ScanCodes x = apart(SIX);
            Due.apart(x, "169");
            noField(x, 1);
            noField(x, 5);
        }, KNOWN, TOO_GREAT, "i >= Math.max(taker.fields().size(), taker.fields().prefixes[5] == 95 ? 6 : 0)");
    }

    private static void knownWhat(Edges all) {
        Edges.Sentence s = all.sentence(14, "IllegalArgumentException: another number outside its range");
        s.edge("what -1", () -> refusedWhat(-1), KNOWN, "what < 0", "what < -1");
        s.edge("what is the least number", () -> refusedWhat(Integer.MIN_VALUE), KNOWN, "what < 0", "what == -1");
        s.edge("what 2", () -> refusedWhat(2), KNOWN, "what > 1", "what > 2");
        s.edge("what is the greatest number", () -> refusedWhat(Integer.MAX_VALUE), KNOWN, "what > 1", "what == 2");
        s.edge("what 0 is the prefix", () -> {
            ScanCodes x = apart("169");
            Due.is("known(0, 0)", 16, () -> x.known(0, 0));
        }, KNOWN, "what < 0", "what <= 0");
        s.edge("what 1 is the digits", () -> {
            ScanCodes x = apart("169");
            Due.is("known(0, 1)", 1, () -> x.known(0, 1));
        }, KNOWN, "what > 1", "what >= 1");
        Edges.Sentence first = all.sentence(14, "REFUSALS, the first that holds");
        first.edge("a field that there is not comes before a number outside its range", () -> {
            ScanCodes x = apart("169");
            Due.refused("known(1, 2)", Due.NO_SUCH, () -> x.known(1, 2));
            Due.refused("known(-1, -1)", Due.NO_SUCH, () -> x.known(-1, -1));
            ScanCodes none = codes();
            Due.refused("known(0, 2) of nothing", Due.NO_SUCH, () -> none.known(0, 2));
        }, KNOWN, "if (i < 0", "if (what < 0 || what > 1) { throw new IllegalArgumentException(); } if (i < 0");
    }

    private static void refusedWhat(int what) {
        ScanCodes x = apart("169");
        Due.refused("known(0, " + what + ")", Due.ARGUMENT, () -> x.known(0, what));
    }

    private static void knownDigits(Edges all) {
        Edges.Sentence s = all.sentence(14, "its prefix (what 0), how many digits it has (1)");
        s.edge("one digit of twelve", () -> {
            ScanCodes x = apart("251");
            Due.is("known(0, 1)", 1, () -> x.known(0, 1));
        }, "private int takeLoose(", "fields.add(prefix, digits,", "fields.add(prefix, Math.max(2, digits),");
        s.edge("twelve digits", () -> {
            ScanCodes x = apart("25123456789012");
            Due.is("known(0, 1)", 12, () -> x.known(0, 1));
        }, "private int takeLoose(", "fields.add(prefix, digits,", "fields.add(prefix, Math.min(11, digits),");
        s.edge("zeros in front are digits", () -> {
            ScanCodes x = apart("25000/1500");
            Due.is("known(0, 1)", 3, () -> x.known(0, 1));
            Due.is("known(1, 1)", 2, () -> x.known(1, 1));
        }, KNOWN, ": taker.fields().digitsAt(i)", ": digitsOf(taker.fields().numberAt(i))");
        s.edge("as it was taken apart, not as the prefix is now", () -> {
            ScanCodes x = apart("1512");
            x.prefix(15, 9, true, -1);
            Due.is("known(0, 1)", 2, () -> x.known(0, 1));
        }, KNOWN, ": taker.fields().digitsAt(i)", ": prefixes.lengthOf(taker.fields().prefixAt(i))");
    }

    private static void onlyIfItCould(Edges all) {
        Edges.Sentence s = all.sentence(14, "Of field i of what was taken apart last (if it could be)");
        s.edge("not the fields before the one that was wrong", () -> {
            ScanCodes x = apart("169991");
            noField(x, 0);
            ScanCodes y = apart(SIX + "1");
            noField(y, 0);
            noField(y, 5);
        }, TAKE, "fields.empty();", "");
        s.edge("not those of a label that misses a need", () -> {
            ScanCodes x = codes();
            x.needs(16, 90);
            Due.apart(x, "169");
            noField(x, 0);
        }, TAKE, "fields.empty();", "if (wrong != NEED_MISSING) { fields.empty(); }");
        s.edge("not those taken apart before it", () -> {
            ScanCodes x = apart("169");
            x.clear();
            Due.type(x, "1694");
            x.parseTyped();
            x.typed(1);
            Due.is("parseTyped()", -2, () -> x.parseTyped());
            noField(x, 0);
        }, TAKE, "forget(); int wrong = firstWrong(signs); if (wrong < 0) { fields.empty(); return wrong; }",
                "int size = fields.size; forget(); int wrong = firstWrong(signs); "
                        + "if (wrong < 0) { fields.size = size; return wrong; }");
        s.edge("read and typed, the last one counts", () -> {
            ScanCodes x = codes();
            // 90 5 and its check sign 8, read.
            Due.read(x, "1001001 0000000 0101010 1000110");
            Due.type(x, "1694");
            Due.is("typed", 1, () -> x.parseTyped());
            Due.is("read", 1, () -> x.parse());
            Due.is("known(0, 0)", 90, () -> x.known(0, 0));
            Due.is("typed again", 1, () -> x.parseTyped());
            Due.is("known(0, 0)", 16, () -> x.known(0, 0));
        }, "public int parseTyped()", "return taker.takeApart(signsTyped);",
                "return taker.fields().size() > 0 ? taker.fields().size() : taker.takeApart(signsTyped);");
    }

    private static void noValue(ScanCodes x, int i) {
        Due.refused("value(" + i + ")", Due.NO_SUCH, () -> x.value(i));
    }

    private static void valueIndex(Edges all) {
        Edges.Sentence s = all.sentence(15, NO_FIELD);
        s.edge("nothing was taken apart", () -> noValue(codes(), 0), VALUE, "if (i < 0",
                "if (i == 0 && taker.fields().size() == 0) { return 0; } if (i < 0");
        s.edge("it could not be taken apart", () -> noValue(apart("169991"), 0), TAKE, "fields.empty();", "");
        s.edge("-1", () -> noValue(apart("169"), -1), VALUE, "i < 0", "i < -1");
        s.edge("the least number", () -> noValue(apart("169"), Integer.MIN_VALUE), VALUE, "i < 0", "i == -1");
        s.edge("the first is there", () -> {
            ScanCodes x = apart("169");
            Due.is("value(0)", 9, () -> x.value(0));
        }, VALUE, "i < 0", "i <= 0");
        s.edge("one behind the only one", () -> noValue(apart("169"), 1), VALUE, TOO_GREAT,
                "i > taker.fields().size()");
        s.edge("the last of six is there", () -> {
            ScanCodes x = apart(SIX);
            Due.is("value(5)", 5, () -> x.value(5));
        }, VALUE, TOO_GREAT, "i >= Math.min(5, taker.fields().size())");
        s.edge("one behind the last of six", () -> noValue(apart(SIX), 6), VALUE, TOO_GREAT,
                "i >= taker.fields().size() + taker.fields().size() / 6");
        s.edge("the greatest number", () -> noValue(apart("169"), Integer.MAX_VALUE), VALUE, TOO_GREAT,
                "i == taker.fields().size()");
    }

    private static void valueNumbers(Edges all) {
        Edges.Sentence s = all.sentence(15, "The number of field i of what was taken apart last");
        s.edge("999999999999, the greatest", () -> {
            ScanCodes x = apart("25999999999999");
            Due.is("value(0)", 999999999999L, () -> x.value(0));
        }, "long numberAt(int from", "return number;", "return (int) number;");
        s.edge("0, the least, of one digit and of twelve", () -> {
            ScanCodes x = apart("250");
            Due.is("value(0)", 0, () -> x.value(0));
            ScanCodes y = apart("25000000000000");
            Due.is("value(0)", 0, () -> y.value(0));
        }, VALUE, "return taker.fields().numberAt(i);", "return Math.max(1, taker.fields().numberAt(i));");
        s.edge("zeros in front", () -> {
            ScanCodes x = apart("25007/1507");
            Due.is("value(0)", 7, () -> x.value(0));
            Due.is("value(1)", 7, () -> x.value(1));
        }, "long numberAt(int from", "number * 10 + at(i)", "number * 10 + (number == 0 && at(i) == 0 ? 1 : at(i))");
    }

    private static void hintRange(Edges all) {
        Edges.Sentence s = all.sentence(17, "IllegalArgumentException: i is below 0");
        s.edge("-1", () -> {
            ScanCodes x = apart("351");
            Due.refused("hint(-1)", Due.ARGUMENT, () -> x.hint(-1));
        }, HINT, "i < 0", "i < -1");
        s.edge("the least number", () -> {
            ScanCodes x = apart("351");
            Due.refused("hint", Due.ARGUMENT, () -> x.hint(Integer.MIN_VALUE));
        }, HINT, "i < 0", "i == -1");
        s.edge("also where nothing was wrong", () -> {
            ScanCodes x = codes();
            Due.refused("hint(-1) of nothing", Due.ARGUMENT, () -> x.hint(-1));
            ScanCodes y = apart("169");
            Due.refused("hint(-1) of a right label", Due.ARGUMENT, () -> y.hint(-1));
        }, HINT, "if (i < 0)", "if (i < 0 && taker.unknownPrefix() != NONE)");
        s.edge("0 is the first", () -> {
            ScanCodes x = apart("351");
            Due.is("hint(0)", 15, () -> x.hint(0));
        }, HINT, "i < 0", "i <= 0");
    }

    private static void hintNumber(Edges all) {
        Edges.Sentence few = all.sentence(17, "-1 if there are not so many");
        few.edge("the last one is there, one more is not", () -> {
            ScanCodes x = apart("351");
            Due.is("hint(2)", 95, () -> x.hint(2));
            Due.is("hint(3)", -1, () -> x.hint(3));
        }, NEAR, "return NONE;", "return i == before ? MAX_PREFIX : NONE;");
        few.edge("the greatest number", () -> {
            ScanCodes x = apart("351");
            Due.is("hint", -1, () -> x.hint(Integer.MAX_VALUE));
        }, NEAR, "before == i", "before == (i == Integer.MAX_VALUE ? 0 : i)");
        few.edge("none that is near", () -> {
            ScanCodes x = apart("481");
            Due.is("hint(0)", -1, () -> x.hint(0));
        }, NEAR, "return NONE;", "return before == 0 ? MAX_PREFIX : NONE;");
        few.edge("no prefix is known at all", () -> {
            ScanCodes x = new ScanCodes(1);
            Due.is("16 9", -4, () -> Due.apart(x, "169"));
            Due.is("hint(0)", -1, () -> x.hint(0));
        }, NEAR, "return NONE;", "return size == 0 ? unknown : NONE;");
        few.edge("sixteen that are near, all there are", () -> {
            ScanCodes x = new ScanCodes(1);
            int[] near = {15, 25, 35, 45, 50, 51, 52, 53, 54, 56, 57, 58, 59, 65, 75, 85};
            for (int i = near.length - 1; i >= 0; i--) {
                x.prefix(near[i], 1, true, -1);
            }
            Due.apart(x, "551");
            for (int i = 0; i < near.length; i++) {
                int n = i;
                Due.is("hint(" + n + ")", near[n], () -> x.hint(n));
            }
            Due.is("hint(16)", -1, () -> x.hint(16));
        }, NEAR, "before == i", "before == i && i < 15");
        Edges.Sentence upward = all.sentence(17, "The i-th known prefix (upward)");
        upward.edge("10 is the first, 99 the last", () -> {
            ScanCodes x = Edges.fixed(1, 99, 1, 10, 1, 20, 1);
            Due.apart(x, "901");
            Due.is("hint(0)", 10, () -> x.hint(0));
            Due.is("hint(1)", 20, () -> x.hint(1));
            Due.is("hint(2)", 99, () -> x.hint(2));
        }, NEAR, "prefix = MIN_PREFIX; prefix <= MAX_PREFIX", "prefix = MIN_PREFIX + 1; prefix < MAX_PREFIX");
        upward.edge("known by now", () -> {
            ScanCodes x = apart("351");
            x.prefix(34, 1, true, -1);
            Due.is("hint(1)", 25, () -> x.hint(1));
            Due.is("hint(2)", 34, () -> x.hint(2));
        }, HINT, "taker.unknownPrefix()", "prefixes.size() > 10 ? NONE : taker.unknownPrefix()");
    }

    /** Signs not wrong by an unknown prefix, typed behind a label that was read and was; no clear() between. */
    private static void noHintAfter(String signs, int due) {
        ScanCodes x = codes();
        // 35 1 and its check sign 3 in seven modules a sign.
        Due.is("35 1", -4, () -> Due.readApart(x, "0011100 0101010 0001111 0011100"));
        Due.is("hint(0) for 35", 15, () -> x.hint(0));
        Due.type(x, signs);
        x.typed(x.check());
        Due.is(signs, due, () -> x.parseTyped());
        Due.is("hint(0) after " + signs, -1, () -> x.hint(0));
    }

    private static void hintOtherWrongs(Edges all) {
        Edges.Sentence s = all.sentence(17, "or that was not what was wrong (or it was not two digits)");
        s.edge("nothing was taken apart", () -> {
            ScanCodes x = codes();
            Due.is("hint(0)", -1, () -> x.hint(0));
        }, HINT, "int unknown = taker.unknownPrefix();",
                "int unknown = taker.unknownPrefix() == NONE && taker.fields().size() == 0 ? 35 : "
                        + "taker.unknownPrefix();");
        s.edge("nothing was wrong", () -> noHintAfter("169", 1), TAKE, "forget();", "fields.empty();");
        s.edge("too few signs", () -> noHintAfter("35", -1), "private int firstWrong(", "return TOO_SHORT;",
                "unknown = 35; return TOO_SHORT;");
        s.edge("the check sign, before a prefix that is not known", () -> {
            ScanCodes x = codes();
            Due.type(x, "3510");
            Due.is("parseTyped()", -2, () -> x.parseTyped());
            Due.is("hint(0)", -1, () -> x.hint(0));
        }, "private int firstWrong(", "return WRONG_CHECK;",
                "unknown = (int) signs.numberAt(0, 2); return WRONG_CHECK;");
        s.edge("six before, and a prefix that is not known", () -> noHintAfter(SIX + "351", -3),
                "private int firstWrong(", "return TOO_MANY_FIELDS;",
                "unknown = (int) signs.numberAt(at, at + 2); return TOO_MANY_FIELDS;");
        s.edge("a prefix that was there before", () -> noHintAfter("169161", -4), FIELD, "if (fields.has(prefix)) {",
                "if (fields.has(prefix)) { unknown = prefix;");
        s.edge("a length", () -> {
            noHintAfter("151", -5);
            noHintAfter("261234", -5);
        }, FIELD, "return prefixes.isFixed(prefix)",
                "if (end - from != prefixes.lengthOf(prefix)) { unknown = prefix; } return prefixes.isFixed(prefix)");
        s.edge("a separator", () -> {
            noHintAfter("15/1", -6);
            noHintAfter("251/", -6);
        }, FIELD, "return prefixes.isFixed(prefix)",
                "if (signs.nextSeparator(from, end) < end) { unknown = prefix; } return prefixes.isFixed(prefix)");
        s.edge("a need that is not known", () -> {
            ScanCodes x = codes();
            x.needs(16, 35);
            Due.is("16 alone", -7, () -> Due.apart(x, "169"));
            Due.is("hint(0)", -1, () -> x.hint(0));
        }, "private boolean needsAreThere(", "{ return false; }", "{ unknown = need; return false; }");
        s.edge("a sign that can not be mended", () -> {
            ScanCodes x = apart("351");
            Due.read(x, "???0000");
            Due.is("parse()", 0, () -> x.parse());
            Due.is("hint(0)", -1, () -> x.hint(0));
        }, "public int parse()", "taker.forget();", "taker.fields().empty();");
    }

    private static void hintNoDigits(Edges all) {
        Edges.Sentence s = all.sentence(17, "or that was not what was wrong (or it was not two digits)");
        s.edge("one sign", () -> noHintAfter("1691", -4), FIELD, "{ return WRONG_PREFIX; } int prefix",
                "{ if (from > end) { unknown = signs.at(at) * 10 + 5; } return WRONG_PREFIX; } int prefix");
        s.edge("the first is a separator", () -> {
            noHintAfter("/516", -4);
            noHintAfter("169/516", -4);
        }, FIELD, "signs.nextSeparator(at, from) < from", "signs.at(at + 1) == SEPARATOR");
        s.edge("the second is a separator", () -> noHintAfter("1/16", -4), FIELD,
                "signs.nextSeparator(at, from) < from", "signs.at(at) == SEPARATOR");
        s.edge("two digits below 10 are two digits", () -> {
            ScanCodes x = apart("0512");
            Due.is("hint(0)", 15, () -> x.hint(0));
            Due.is("hint(1)", 25, () -> x.hint(1));
            Due.is("hint(2)", 95, () -> x.hint(2));
            Due.is("hint(3)", -1, () -> x.hint(3));
        }, FIELD, "unknown = prefix;", "unknown = prefix < MIN_PREFIX ? NONE : prefix;");
        s.edge("00", () -> {
            ScanCodes x = apart("0000");
            Due.is("hint(0)", 90, () -> x.hint(0));
            Due.is("hint(1)", -1, () -> x.hint(1));
        }, HINT, "unknown == NONE ?", "unknown == NONE || unknown == 0 ?");
    }

    private static void hintOneDigit(Edges all) {
        Edges.Sentence s = all.sentence(17, "that differs in one digit just from the prefix that was not known");
        s.edge("not in both", () -> {
            ScanCodes x = Edges.fixed(1, 20, 1, 19, 1);
            Due.apart(x, "181");
            Due.is("19 for 18", 19, () -> x.hint(0));
            Due.is("not 20", -1, () -> x.hint(1));
            Due.apart(x, "211");
            Due.is("20 for 21", 20, () -> x.hint(0));
            Due.is("not 19", -1, () -> x.hint(1));
        }, DIFFER, "tensDiffer != onesDiffer", "tensDiffer || onesDiffer");
        s.edge("not in none: the prefix itself, known by now", () -> {
            ScanCodes x = apart("351");
            x.prefix(35, 1, true, -1);
            Due.is("hint(1)", 25, () -> x.hint(1));
            Due.is("hint(2)", 95, () -> x.hint(2));
        }, DIFFER, "tensDiffer != onesDiffer", "!tensDiffer || !onesDiffer");
        s.edge("by one and by nine", () -> {
            ScanCodes x = Edges.fixed(1, 99, 1, 11, 1, 10, 1, 91, 1);
            Due.apart(x, "191");
            Due.is("10", 10, () -> x.hint(0));
            Due.is("11", 11, () -> x.hint(1));
            Due.is("99", 99, () -> x.hint(2));
            Due.is("no more", -1, () -> x.hint(3));
        }, DIFFER, "boolean tensDiffer = one / 10 != other / 10;",
                "boolean tensDiffer = one / 10 != other / 10 && one % 10 != 9;");
    }

    private static void hintLast(Edges all) {
        Edges.Sentence s = all.sentence(17, "the prefix that was not known when something was taken apart last");
        s.edge("the last one's, not an earlier one's", () -> {
            ScanCodes x = apart("351");
            Due.apart(x, "361");
            Due.is("hint(0) for 36", 16, () -> x.hint(0));
        }, FIELD, "unknown = prefix;", "unknown = prefix == 36 ? 35 : prefix;");
        s.edge("in the sixth field", () -> {
            ScanCodes x = apart("900911922933944351");
            Due.is("hint(0)", 15, () -> x.hint(0));
        }, FIELD, "unknown = prefix;", "unknown = fields.size() == 5 ? NONE : prefix;");
        s.edge("a refused call leaves it", () -> {
            ScanCodes x = apart("351");
            Due.refused("parse()", Due.STATE, () -> x.parse());
            Due.refused("scan(0, 0)", Due.STATE, () -> x.scan(0, 0));
            Due.refused("hint(-1)", Due.ARGUMENT, () -> x.hint(-1));
            Due.is("hint(0)", 15, () -> x.hint(0));
        }, HINT, "throw new IllegalArgumentException(", "taker.forget(); throw new IllegalArgumentException(");
    }
}
