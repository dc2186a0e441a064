/** Boundary cases of promises 10 (typed), 12 (parseTyped, but for what taking apart says) and 13 (check). */
final class TypedEdges {
    private static final String TYPED = "public int typed(";
    private static final String CHECK = "public int check()";
    private static final String PARSE_TYPED = "public int parseTyped()";
    private static final String CLEAR = "public void clear()";
    private static final String CHECK_SIGN = "int checkSign(";

    private TypedEdges() {
    }

    static void addTo(Edges all) {
        signRange(all);
        signRoom(all);
        nothingTyped(all);
        typedStays(all);
        nothingToCheck(all);
        checkEnds(all);
        checkWeights(all);
    }

    private static ScanCodes sixteen() {
        return Edges.fixed(1, 16, 1);
    }

    private static ScanCodes full(int sign) {
        ScanCodes x = sixteen();
        for (int i = 0; i < 60; i++) {
            x.typed(sign);
        }
        return x;
    }

    private static void refusedSign(int sign) {
        ScanCodes x = sixteen();
        Due.refused("typed(" + sign + ")", Due.ARGUMENT, () -> x.typed(sign));
    }

    private static void takenSign(int sign) {
        ScanCodes x = sixteen();
        Due.is("typed(" + sign + ")", 1, () -> x.typed(sign));
        Due.is("again", 2, () -> x.typed(sign));
    }

    private static void signRange(Edges all) {
        Edges.Sentence s = all.sentence(10, "A sign is typed (0 .. 10): how many were");
        s.edge("-1 is too small", () -> refusedSign(-1), TYPED, "sign < 0", "sign < -1");
        s.edge("the least number is too small", () -> refusedSign(Integer.MIN_VALUE), TYPED, "sign < 0", "sign == -1");
        s.edge("0 is typed", () -> takenSign(0), TYPED, "sign < 0", "sign <= 0");
        s.edge("10, a separator, is typed", () -> takenSign(10), TYPED, "sign > SEPARATOR", "sign >= SEPARATOR");
        s.edge("11 is too large", () -> refusedSign(11), TYPED, "sign > SEPARATOR", "sign > 11");
        s.edge("the greatest number is too large", () -> refusedSign(Integer.MAX_VALUE), TYPED, "sign > SEPARATOR",
                "sign == 11");
        s.edge("a refused call is not counted", () -> {
            ScanCodes x = sixteen();
            x.typed(1);
            Due.refused("typed(11)", Due.ARGUMENT, () -> x.typed(11));
            Due.refused("typed(-1)", Due.ARGUMENT, () -> x.typed(-1));
            Due.is("the second", 2, () -> x.typed(6));
        }, TYPED, "throw new IllegalArgumentException(", "signsTyped.add(0); throw new IllegalArgumentException(");
    }

    private static void signRoom(Edges all) {
        Edges.Sentence s = all.sentence(10, "UnsupportedOperationException: there are 60");
        s.edge("the 60th is typed", () -> {
            ScanCodes x = sixteen();
            for (int i = 1; i <= 60; i++) {
                int n = i;
                Due.is("sign " + n, n, () -> x.typed(n % 11));
            }
        }, TYPED, "signsTyped.isFull()", "signsTyped.size() >= 59");
        s.edge("the 61st is not", () -> {
            ScanCodes x = full(0);
            Due.refused("the 61st", Due.NO_ROOM, () -> x.typed(0));
            Due.refused("a separator", Due.NO_ROOM, () -> x.typed(10));
            Due.is("count(4)", 60, () -> x.count(4));
        }, TYPED, "signsTyped.isFull()", "signsTyped.size() > MAX_SIGNS");
        s.edge("a refused call leaves what was typed", () -> {
            ScanCodes x = full(0);
            Due.refused("the 61st", Due.NO_ROOM, () -> x.typed(5));
            Due.is("check()", 0, () -> x.check());
            Due.is("parseTyped()", -4, () -> x.parseTyped());
        }, TYPED, "throw new UnsupportedOperationException(",
                "signsTyped.put(59, sign); throw new UnsupportedOperationException(");
        Edges.Sentence first = all.sentence(10, "REFUSALS, the first that holds");
        first.edge("a number outside its range comes before no room", () -> {
            ScanCodes x = full(0);
            Due.refused("typed(11)", Due.ARGUMENT, () -> x.typed(11));
            Due.refused("typed(-1)", Due.ARGUMENT, () -> x.typed(-1));
        }, TYPED, "if (sign < 0",
                "if (signsTyped.isFull()) { throw new UnsupportedOperationException(); } if (sign < 0");
    }

    private static void nothingTyped(Edges all) {
        Edges.Sentence s = all.sentence(12, "IllegalStateException: nothing was typed");
        s.edge("a new object", () -> {
            ScanCodes x = sixteen();
            Due.refused("parseTyped()", Due.STATE, () -> x.parseTyped());
        }, PARSE_TYPED, "signsTyped.size() == 0", "signsTyped.size() < 0");
        s.edge("only read", () -> {
            ScanCodes x = sixteen();
            Due.read(x, "0001111 0110110 1001001 0100101");
            Due.refused("parseTyped()", Due.STATE, () -> x.parseTyped());
        }, PARSE_TYPED, "signsTyped.size() == 0", "signsTyped.size() == 0 && modulesRead.size() == 0");
        s.edge("cleared", () -> {
            ScanCodes x = sixteen();
            Due.apart(x, "169");
            x.clear();
            Due.refused("parseTyped()", Due.STATE, () -> x.parseTyped());
        }, CLEAR, "signsTyped.empty();", "signsTyped.zeros(Math.min(1, signsTyped.size()));");
        s.edge("one sign is something", () -> {
            ScanCodes x = sixteen();
            x.typed(0);
            Due.is("parseTyped()", -1, () -> x.parseTyped());
        }, PARSE_TYPED, "signsTyped.size() == 0", "signsTyped.size() <= 1");
        s.edge("a refused call leaves what was taken apart", () -> {
            ScanCodes x = sixteen();
            Due.readApart(x, "0001111 0110110 1001001 ?100101");
            Due.refused("parseTyped()", Due.STATE, () -> x.parseTyped());
            Due.is("count(5)", 1, () -> x.count(5));
            Due.is("value(0)", 9, () -> x.value(0));
            Due.is("mended()", 1, () -> x.mended());
        }, PARSE_TYPED, "throw new IllegalStateException(", "taker.forget(); throw new IllegalStateException(");
    }

    private static void typedStays(Edges all) {
        Edges.Sentence s = all.sentence(12, "What was typed is taken apart");
        s.edge("and stays typed: again, and with more", () -> {
            ScanCodes x = sixteen();
            Due.is("parseTyped()", 1, () -> Due.apart(x, "169"));
            Due.is("again", 1, () -> x.parseTyped());
            Due.is("one more", 5, () -> x.typed(1));
            Due.is("with one more", -2, () -> x.parseTyped());
        }, PARSE_TYPED, "return taker.takeApart(signsTyped);",
                "int got = taker.takeApart(signsTyped); signsTyped.empty(); return got;");
        s.edge("sixty signs, the most that can be typed", () -> {
            ScanCodes x = Edges.loose(1, 30, 12, 31, 12, 32, 12, 33, 12);
            String nines = "999999999999";
            Due.is("four fields", 4,
                    () -> Due.apart(x, "30" + nines + "/31" + nines + "/32" + nines + "/33" + nines));
            Due.is("count(4)", 60, () -> x.count(4));
            Due.is("the last one", 999999999999L, () -> x.value(3));
        }, PARSE_TYPED, "return taker.takeApart(signsTyped);",
                "return signsTyped.isFull() ? 0 : taker.takeApart(signsTyped);");
    }

    private static void nothingToCheck(Edges all) {
        Edges.Sentence s = all.sentence(13, "IllegalStateException: nothing was typed");
        s.edge("a new object", () -> {
            ScanCodes x = sixteen();
            Due.refused("check()", Due.STATE, () -> x.check());
        }, CHECK, "signsTyped.size() == 0", "signsTyped.size() < 0");
        s.edge("only read", () -> {
            ScanCodes x = sixteen();
            x.read(1);
            Due.refused("check()", Due.STATE, () -> x.check());
        }, CHECK, "signsTyped.size() == 0", "signsTyped.size() == 0 && modulesRead.size() == 0");
        s.edge("cleared", () -> {
            ScanCodes x = sixteen();
            x.typed(1);
            x.clear();
            Due.refused("check()", Due.STATE, () -> x.check());
        }, CLEAR, "signsTyped.empty();", "signsTyped.zeros(Math.min(1, signsTyped.size()));");
    }

    private static void checks(String signs, int due) {
        ScanCodes x = sixteen();
        Due.type(x, signs);
        Due.is("check() of " + signs, due, () -> x.check());
    }

    private static void checkEnds(Edges all) {
        Edges.Sentence s = all.sentence(13, "The check sign of what was typed so far");
        s.edge("of one sign", () -> checks("1", 7), CHECK, "signsTyped.size() == 0", "signsTyped.size() <= 1");
        s.edge("of one separator", () -> checks("/", 0), CHECK, "return checkSign", "return signsTyped.at("
                + "signsTyped.size() - 1) == SEPARATOR ? -1 : checkSign");
        s.edge("of sixty signs, where no room is left for it", () -> {
            ScanCodes x = full(1);
            // 30 times 3 and 30 times 1.
            Due.is("check()", 0, () -> x.check());
            Due.is("count(4)", 60, () -> x.count(4));
        }, CHECK, "signsTyped.size() == 0", "signsTyped.size() == 0 || signsTyped.isFull()");
        s.edge("it is not typed by that", () -> {
            ScanCodes x = sixteen();
            x.typed(1);
            Due.is("check()", 7, () -> x.check());
            Due.is("again", 7, () -> x.check());
            Due.is("count(4)", 1, () -> x.count(4));
        }, CHECK, "return checkSign(signsTyped, signsTyped.size());",
                "int due = checkSign(signsTyped, signsTyped.size()); signsTyped.add(due); return due;");
        s.edge("a check sign that was typed is a sign too", () -> checks("1694", 0), CHECK, "signsTyped.size());",
                "Math.min(3, signsTyped.size()));");
    }

    private static void checkWeights(Edges all) {
        Edges.Sentence s = all.sentence(13, "a digit by which 3 times the last sign before it, once the one before "
                + "that, 3 times the next, and so on, and it are a multiple of 10 (a separator counts as 10)");
        s.edge("0 where the others are 0", () -> checks("0", 0), CHECK_SIGN, "Math.floorMod(-sum, 10)",
                "sum == 0 ? 10 : Math.floorMod(-sum, 10)");
        s.edge("0 where the others are a multiple of 10", () -> checks("307", 0), CHECK_SIGN,
                "Math.floorMod(-sum, 10)", "10 - sum % 10");
        s.edge("1 where they are one less", () -> checks("3", 1), CHECK_SIGN, "Math.floorMod(-sum, 10)",
                "Math.floorMod(-sum, 10) % 9 * (sum == 9 ? 0 : 1)");
        s.edge("9 where they are one more", () -> checks("7", 9), CHECK_SIGN, "Math.floorMod(-sum, 10)",
                "Math.floorMod(-sum, 10) % 9");
        s.edge("3 times the last, once the one before", () -> checks("12", 3), CHECK_SIGN, "int weight = 3",
                "int weight = 1");
        s.edge("3 times the next", () -> checks("100", 7), CHECK_SIGN, "weight = 4 - weight;", "weight = 1;");
        s.edge("a separator at the last, and before it", () -> {
            checks("1/", 9);
            checks("/1", 7);
            checks("1/4", 5);
        }, CHECK_SIGN, "row.at(i)", "(row.at(i) == SEPARATOR ? 11 : row.at(i))");
        s.edge("the first of an odd and of an even number of signs", () -> {
            checks("500", 5);
            checks("5000", 5);
            checks("2000", 8);
        }, CHECK_SIGN, "i >= 0", "i > 0");
        s.edge("the most that sixty signs can be", () -> {
            ScanCodes x = full(9);
            // 30 times 27 and 30 times 9 are 1080.
            Due.is("check()", 0, () -> x.check());
        }, CHECK_SIGN, "Math.floorMod(-sum, 10)", "Math.floorMod(-Math.min(sum, 999), 10)");
    }
}
