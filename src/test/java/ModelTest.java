import java.util.ArrayList;
import java.util.Collections;
import java.util.List;
import java.util.Map;
import java.util.Random;
import java.util.TreeMap;

/** Runs of calls, the same ones at each start, each answer beside that of the model. */
public final class ModelTest {
    private static final int RUNS = 6000;
    private static final int CALLS = 512;
    private static final int[] ODD = {Integer.MIN_VALUE, -3, -2, -1, 0, 1, 2, 3, 6, 7, 8, 9, 10, 11, 12, 13, 99, 100,
        419, 420, Integer.MAX_VALUE};

    private final Random random;
    private final ScanCodes codes;
    private final Model model;
    private final Map<String, Integer> seen;
    private final StringBuilder run = new StringBuilder();
    private final boolean longFields;
    private List<Integer> others = new ArrayList<>();
    private int calls = 0;
    private int second = 0;

    private ModelTest(int seed, Map<String, Integer> seen) {
        random = new Random(seed);
        int form = random.nextInt(20) == 0 ? odd() : random.nextInt(3);
        codes = new ScanCodes(form);
        model = new Model(form);
        run.append("form ").append(form);
        this.seen = seen;
        longFields = random.nextInt(5) == 0;
    }

    private int odd() {
        return ODD[random.nextInt(ODD.length)];
    }

    private boolean seldom() {
        return random.nextInt(25) == 0;
    }

    private int among(int from, int to) {
        return from + random.nextInt(to - from + 1);
    }

    private static String answered(Due.Call call) {
        try {
            return Long.toString(call.answer());
        } catch (RuntimeException e) {
            String text = e.getMessage();
            boolean machine = text != null && text.contains("out of bounds for length");
            return (machine ? "the machine's " : "") + e.getClass().getName();
        }
    }

    /** One call to both; the answer of the class, as a number where it is one. */
    private String both(String name, Due.Call ofCodes, Due.Call ofModel) {
        if (calls >= CALLS) {
            return "";
        }
        calls++;
        String got = answered(ofCodes);
        String due = answered(ofModel);
        run.append(", ").append(name).append(" = ").append(due);
        if (!got.equals(due)) {
            Due.compare(run.toString(), due, got);
            calls = CALLS;
        }
        String kind = name.substring(0, name.indexOf('(')) + " " + (due.startsWith("-") || due.startsWith("java")
                || due.equals("0") ? due : "above 0");
        seen.merge(kind, 1, Integer::sum);
        return got;
    }

    private static Due.Call deed(Due.Deed deed) {
        return () -> {
            deed.run();
            return 1;
        };
    }

    private int somePrefix() {
        List<Integer> known = model.knownPrefixes();
        if (seldom()) {
            return odd();
        }
        if (known.isEmpty() || seldom()) {
            return among(10, 40);
        }
        // Mostly another one than those before, as a label wants it.
        if (others.isEmpty()) {
            others = known;
            Collections.shuffle(others, random);
        }
        return others.remove(others.size() - 1);
    }

    private void prefix() {
        int prefix = seldom() ? odd() : random.nextInt(3) == 0 ? among(10, 99) : among(1, 3) * 10 + among(0, 4);
        int length = seldom() ? odd() : longFields ? among(9, 12) : among(1, random.nextInt(3) == 0 ? 12 : 4);
        boolean fixed = random.nextBoolean();
        int station = seldom() ? odd() : random.nextInt(3) == 0 ? among(0, 2) : -1;
        both("prefix(" + prefix + " " + length + " " + fixed + " " + station + ")",
                () -> codes.prefix(prefix, length, fixed, station),
                () -> model.prefix(prefix, length, fixed, station));
    }

    private void needs() {
        int prefix = somePrefix();
        int other = random.nextInt(3) == 0 ? 0 : somePrefix();
        both("needs(" + prefix + " " + other + ")", deed(() -> codes.needs(prefix, other)),
                deed(() -> model.needs(prefix, other)));
    }

    private void field() {
        int prefix = somePrefix();
        boolean known = model.knownPrefixes().contains(prefix);
        int length = known ? model.lengthOf(prefix) : among(1, 12);
        int digits = seldom() ? odd() : known && model.isFixed(prefix) ? length : among(1, length);
        long number = seldom() ? random.nextLong() : number(Math.max(1, Math.min(digits, 12)));
        both("field(" + prefix + " " + number + " " + digits + ")", () -> codes.field(prefix, number, digits),
                () -> model.field(prefix, number, digits));
    }

    private long number(int digits) {
        long number = 0;
        for (int i = 0; i < digits; i++) {
            number = number * 10 + (random.nextInt(3) == 0 ? 0 : random.nextInt(10));
        }
        return seldom() ? number * 10 + 1 : number;
    }

    private void label() {
        both("begin()", deed(codes::begin), deed(model::begin));
        others.clear();
        int fields = among(0, 7);
        for (int i = 0; i < fields; i++) {
            field();
        }
        both("make()", codes::make, model::make);
        for (int i = 0; i < 3; i++) {
            int at = seldom() ? odd() : random.nextInt(Math.max(1, model.madeModules().length() + 2));
            both("module(" + at + ")", () -> codes.module(at), () -> model.module(at));
        }
    }

    private void clear() {
        both("clear()", deed(codes::clear), deed(model::clear));
    }

    private void read(int value) {
        both("read(" + value + ")", () -> codes.read(value), () -> model.read(value));
    }

    private void readMade() {
        clear();
        String modules = model.madeModules();
        int noise = random.nextInt(3) == 0 ? 0 : among(2, 60);
        for (int i = 0; i < modules.length(); i++) {
            boolean noisy = noise > 0 && random.nextInt(noise) == 0;
            read(noisy ? random.nextInt(3) : modules.charAt(i) - '0');
        }
        if (seldom()) {
            read(odd());
        }
        both("parse()", codes::parse, model::parse);
        both("mended()", codes::mended, model::mended);
        look();
    }

    private void type(int sign) {
        both("typed(" + sign + ")", () -> codes.typed(sign), () -> model.typed(sign));
    }

    private void typeLabel() {
        clear();
        others.clear();
        StringBuilder signs = new StringBuilder();
        int fields = among(0, 7);
        for (int i = 0; i < fields; i++) {
            int prefix = Math.floorMod(somePrefix(), 100);
            boolean known = model.knownPrefixes().contains(prefix);
            int length = known ? model.lengthOf(prefix) : 2;
            boolean fixed = known && model.isFixed(prefix);
            int digits = seldom() ? among(0, 13) : fixed ? length : among(1, length);
            signs.append(prefix < 10 ? "0" : "").append(prefix);
            for (int k = 0; k < digits; k++) {
                signs.append(seldom() && seldom() ? '/' : (char) ('0' + random.nextInt(seldom() ? 10 : 2)));
            }
            if (!fixed && i < fields - 1 || seldom()) {
                signs.append('/');
            }
        }
        for (char c : signs.toString().toCharArray()) {
            type(c == '/' ? 10 : c - '0');
        }
        String check = both("check()", codes::check, model::check);
        if (check.matches("\\d")) {
            type(seldom() ? odd() : Integer.parseInt(check));
        }
        both("parseTyped()", codes::parseTyped, model::parseTyped);
        look();
    }

    private void look() {
        for (int i = 0; i < 2; i++) {
            int at = seldom() ? odd() : among(0, 6);
            int what = seldom() ? odd() : among(0, 1);
            int few = seldom() ? odd() : among(0, 2);
            both("known(" + at + " " + what + ")", () -> codes.known(at, what), () -> model.known(at, what));
            both("value(" + at + ")", () -> codes.value(at), () -> model.value(at));
            both("hint(" + few + ")", () -> codes.hint(few), () -> model.hint(few));
        }
    }

    private void scan() {
        int station = seldom() ? odd() : among(0, 3);
        int at = seldom() ? (seldom() ? odd() : second - 1) : second + among(0, 6);
        String got = both("scan(" + station + " " + at + ")", () -> codes.scan(station, at),
                () -> model.scan(station, at));
        second = got.matches("-?\\d+") ? at : second;
    }

    private void count() {
        for (int what = -1; what <= 8; what++) {
            int n = what;
            both("count(" + n + ")", () -> codes.count(n), () -> model.count(n));
        }
    }

    /** Many short labels, so that some run comes to forty of them. */
    private void manyLabels() {
        prefix();
        for (int i = 0; i < 45; i++) {
            List<Integer> known = model.knownPrefixes();
            if (known.isEmpty()) {
                return;
            }
            int prefix = known.get(random.nextInt(known.size()));
            clear();
            type(prefix / 10);
            type(prefix % 10);
            int digits = model.isFixed(prefix) ? model.lengthOf(prefix) : 1;
            for (int k = 0; k < digits; k++) {
                type(random.nextInt(10));
            }
            String check = both("check()", codes::check, model::check);
            if (check.matches("\\d")) {
                type(Integer.parseInt(check));
            }
            both("parseTyped()", codes::parseTyped, model::parseTyped);
            scan();
        }
    }

    private void play() {
        int first = random.nextInt(8) == 0 ? 18 : among(0, 6);
        for (int i = 0; i < first; i++) {
            prefix();
        }
        if (random.nextInt(6) == 0) {
            manyLabels();
        }
        for (int step = 0; step < 400 && calls < CALLS; step++) {
            switch (random.nextInt(12)) {
                case 0: prefix(); break;
                case 1: needs(); break;
                case 2: label(); break;
                case 3: readMade(); break;
                case 4: typeLabel(); break;
                case 5: typeLabel(); scan(); break;
                case 6: case 7: case 8: scan(); break;
                case 9: count(); break;
                case 10: if (seldom()) { clear(); } break;
                default: read(seldom() ? odd() : among(0, 2)); break;
            }
        }
    }

    public static void main(String[] args) {
        Map<String, Integer> seen = new TreeMap<>();
        for (int seed = 0; seed < RUNS; seed++) {
            new ModelTest(seed, seen).play();
        }
        // A kind of answer that no run comes to would be tested by none.
        List<String> due = new ArrayList<>(List.of("parse -1", "parse -7", "parse 0", "parse above 0"));
        for (int wrong = 1; wrong <= 7; wrong++) {
            due.add("parseTyped -" + wrong);
        }
        due.addAll(List.of("scan 0", "scan above 0", "scan -1", "scan -2", "hint above 0", "mended above 0",
                "scan java.lang.UnsupportedOperationException", "make java.lang.UnsupportedOperationException",
                "prefix java.lang.UnsupportedOperationException", "typed java.lang.UnsupportedOperationException",
                "module java.lang.ArrayIndexOutOfBoundsException"));
        for (String kind : due) {
            Due.is("some run answers " + kind, 1, () -> seen.containsKey(kind) ? 1 : 0);
        }
        if (args.length > 0) {
            System.out.println(seen);
        }
        Due.done("ModelTest");
    }
}
