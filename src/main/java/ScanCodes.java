import java.util.Arrays;
import java.util.NoSuchElementException;

/** Codes on labels: written, made into modules, read and mended, typed, taken apart and scanned. */
public final class ScanCodes {

    private static final int SEPARATOR = 10;
    private static final int MAX_FORM = 2;
    private static final int ERASED = 2;

    private static final int MIN_PREFIX = 10;
    private static final int MAX_PREFIX = 99;
    private static final int MAX_PREFIXES = 16;
    private static final int PREFIX_DIGITS = 2;
    private static final int MAX_DIGITS = 12;
    private static final int MAX_LONG_DIGITS = 19;
    private static final int NO_NEED = 0;

    private static final int MAX_FIELDS = 6;
    private static final int MIN_SIGNS = 4;
    private static final int MAX_SIGNS = 60;
    private static final int MAX_MODULES = 420;
    /** Form 0 has only four modules a sign, so more signs can be read than a label may have. */
    private static final int MAX_READ_SIGNS = 105;

    private static final int STATIONS = 8;
    private static final int ANY_STATION = -1;
    private static final int MAX_LABELS = 40;
    private static final int DOUBLED_SECONDS = 10;
    private static final int NEVER = -1;
    private static final int NONE = -1;

    private static final int NOT_MENDED = 0;
    private static final int TOO_SHORT = -1;
    private static final int WRONG_CHECK = -2;
    private static final int TOO_MANY_FIELDS = -3;
    private static final int WRONG_PREFIX = -4;
    private static final int WRONG_LENGTH = -5;
    private static final int WRONG_SEPARATOR = -6;
    private static final int NEED_MISSING = -7;

    private final Coder coder;
    private final Prefixes prefixes;
    private final Fields written;
    private final Row made;
    private final Row modulesRead;
    private final Row signsTyped;
    /** Used anew by each call that needs signs, so that no call makes a row of its own. */
    private final Row signs;
    private final Taker taker;
    private final ScanLog scans;
    private int mendedModules;
    private int lastSecond;

    public ScanCodes(int form) {
        coder = new Coder(Math.max(0, Math.min(form, MAX_FORM)));
        prefixes = new Prefixes();
        written = new Fields();
        made = new Row(MAX_MODULES);
        modulesRead = new Row(MAX_MODULES);
        signsTyped = new Row(MAX_SIGNS);
        signs = new Row(MAX_READ_SIGNS);
        taker = new Taker(prefixes);
        scans = new ScanLog();
        mendedModules = 0;
        lastSecond = 0;
    }

    public int prefix(int prefix, int length, boolean fixed, int station)
            throws IllegalArgumentException, UnsupportedOperationException {
        if (!isPrefix(prefix) || length < 1 || length > MAX_DIGITS) {
            throw new IllegalArgumentException("no such prefix or length");
        }
        if (station != ANY_STATION && !isStation(station)) {
            throw new IllegalArgumentException("no such station");
        }
        if (!prefixes.has(prefix) && prefixes.size() >= MAX_PREFIXES) {
            throw new UnsupportedOperationException("sixteen other prefixes are known");
        }
        prefixes.put(prefix, length, fixed, station);
        return prefixes.size();
    }

    public void needs(int prefix, int other) throws NoSuchElementException, IllegalArgumentException {
        if (!prefixes.has(prefix)) {
            throw new NoSuchElementException("the prefix is not known");
        }
        if (other == prefix || (other != NO_NEED && !isPrefix(other))) {
            throw new IllegalArgumentException("not another prefix");
        }
        prefixes.putNeed(prefix, other);
    }

    public void begin() {
        written.empty();
    }

    public int field(int prefix, long number, int digits)
            throws NoSuchElementException, IllegalArgumentException, IllegalStateException {
        if (!prefixes.has(prefix)) {
            throw new NoSuchElementException("the prefix is not known");
        }
        if (digits < 1 || digits > MAX_DIGITS || number < 0 || digitsOf(number) > digits) {
            throw new IllegalArgumentException("the number does not have so many digits");
        }
        if (!prefixes.lets(prefix, digits)) {
            throw new IllegalArgumentException("the prefix does not let so many digits");
        }
        if (written.has(prefix) || written.size() >= MAX_FIELDS) {
            throw new IllegalStateException("the label has this prefix, or six");
        }
        written.add(prefix, digits, number);
        return written.size();
    }

    public int make() throws IllegalStateException, UnsupportedOperationException {
        if (written.size() == 0) {
            throw new IllegalStateException("the label has no fields");
        }
        writeFields();
        if (signs.size() + 1 > MAX_SIGNS) {
            throw new UnsupportedOperationException("the label has more than 60 signs");
        }
        signs.add(checkSign(signs, signs.size()));
        coder.encode(signs, made);
        return made.size();
    }

    public int module(int i) throws ArrayIndexOutOfBoundsException {
        if (i < 0 || i >= made.size()) {
            throw new ArrayIndexOutOfBoundsException("no such module");
        }
        return made.at(i);
    }

    public void clear() {
        modulesRead.empty();
        signsTyped.empty();
        taker.forget();
        mendedModules = 0;
    }

    public int read(int value) throws IllegalArgumentException, UnsupportedOperationException {
        if (value < 0 || value > ERASED) {
            throw new IllegalArgumentException("no module");
        }
        if (modulesRead.isFull()) {
            throw new UnsupportedOperationException("420 modules were read");
        }
        modulesRead.add(value);
        return modulesRead.size();
    }

    public int typed(int sign) throws IllegalArgumentException, UnsupportedOperationException {
        if (sign < 0 || sign > SEPARATOR) {
            throw new IllegalArgumentException("no sign");
        }
        if (signsTyped.isFull()) {
            throw new UnsupportedOperationException("60 signs were typed");
        }
        signsTyped.add(sign);
        return signsTyped.size();
    }

    public int parse() throws IllegalStateException {
        if (modulesRead.size() == 0) {
            throw new IllegalStateException("nothing was read");
        }
        taker.forget();
        boolean whole = coder.decode(modulesRead, signs);
        mendedModules = coder.mendedLast();
        return whole ? taker.takeApart(signs) : NOT_MENDED;
    }

    public int parseTyped() throws IllegalStateException {
        if (signsTyped.size() == 0) {
            throw new IllegalStateException("nothing was typed");
        }
        return taker.takeApart(signsTyped);
    }

    public int check() throws IllegalStateException {
        if (signsTyped.size() == 0) {
            throw new IllegalStateException("nothing was typed");
        }
        return checkSign(signsTyped, signsTyped.size());
    }

    public int known(int i, int what) throws NoSuchElementException, IllegalArgumentException {
        if (i < 0 || i >= taker.fields().size()) {
            throw new NoSuchElementException("no such field");
        }
        if (what < 0 || what > 1) {
            throw new IllegalArgumentException("neither the prefix nor the digits");
        }
        return what == 0 ? taker.fields().prefixAt(i) : taker.fields().digitsAt(i);
    }

    public long value(int i) throws NoSuchElementException {
        if (i < 0 || i >= taker.fields().size()) {
            throw new NoSuchElementException("no such field");
        }
        return taker.fields().numberAt(i);
    }

    public int mended() {
        return mendedModules;
    }

    public int hint(int i) throws IllegalArgumentException {
        if (i < 0) {
            throw new IllegalArgumentException("hints are counted from 0");
        }
        int unknown = taker.unknownPrefix();
        return unknown == NONE ? NONE : prefixes.nearTo(unknown, i);
    }

    public int scan(int station, int second)
            throws IllegalArgumentException, IllegalStateException, UnsupportedOperationException {
        if (!isStation(station) || second < lastSecond) {
            throw new IllegalArgumentException("no such station, or before the last scan");
        }
        Fields label = taker.fields();
        if (label.size() == 0) {
            throw new IllegalStateException("nothing could be taken apart");
        }
        int place = scans.placeOf(label);
        if (place == NONE && scans.isFull()) {
            throw new UnsupportedOperationException("forty other labels were scanned");
        }
        lastSecond = second;
        int strange = firstStrange(label, station);
        if (strange != NONE) {
            return -1 - strange;
        }
        if (place == NONE) {
            place = scans.add(label);
        }
        return scans.accepts(place, station, second) ? label.size() : 0;
    }

    public int count(int what) {
        switch (what) {
            case 0: return prefixes.size();
            case 1: return written.size();
            case 2: return made.size();
            case 3: return modulesRead.size();
            case 4: return signsTyped.size();
            case 5: return taker.fields().size();
            case 6: return scans.size();
            case 7: return coder.form();
            default: return -1;
        }
    }

    private static boolean isPrefix(int prefix) {
        return prefix >= MIN_PREFIX && prefix <= MAX_PREFIX;
    }

    private static boolean isStation(int station) {
        return station >= 0 && station < STATIONS;
    }

    private static int digitsOf(long number) {
        int digits = 1;
        long rest = number / 10;
        for (int i = 0; i < MAX_LONG_DIGITS && rest != 0; i++) {
            rest /= 10;
            digits++;
        }
        return digits;
    }

    /** The check sign that is due behind the first signs of a row. */
    private static int checkSign(Row row, int length) {
        int sum = 0;
        int weight = 3;
        for (int i = length - 1; i >= 0; i--) {
            sum += weight * row.at(i);
            weight = 4 - weight;
        }
        return Math.floorMod(-sum, 10);
    }

    private void writeFields() {
        signs.empty();
        int last = written.size() - 1;
        for (int i = 0; i <= last; i++) {
            int prefix = written.prefixAt(i);
            signs.addNumber(prefix, PREFIX_DIGITS);
            signs.addNumber(written.numberAt(i), written.digitsAt(i));
            if (i < last && !prefixes.isFixed(prefix)) {
                signs.add(SEPARATOR);
            }
        }
    }

    private int firstStrange(Fields label, int station) {
        for (int i = 0; i < label.size(); i++) {
            int own = prefixes.stationOf(label.prefixAt(i));
            if (own != ANY_STATION && own != station) {
                return i;
            }
        }
        return NONE;
    }

    /** Numbers in a row of a fixed room; no place outside what it holds is ever touched. */
    private static final class Row {
        private final int[] values;
        private int size;

        Row(int room) {
            values = new int[Math.max(0, room)];
            size = 0;
        }

        int size() {
            return size;
        }

        boolean isFull() {
            return size >= values.length;
        }

        void empty() {
            size = 0;
        }

        void add(int number) {
            if (size < values.length) {
                values[size] = number;
                size++;
            }
        }

        /** Digits come from the last to the first, so their places are made before. */
        void addNumber(long number, int digits) {
            int from = size;
            for (int i = 0; i < digits; i++) {
                add(0);
            }
            long rest = number;
            for (int i = from + digits - 1; i >= from; i--) {
                put(i, (int) (rest % 10));
                rest /= 10;
            }
        }

        void zeros(int length) {
            size = Math.max(0, Math.min(length, values.length));
            for (int i = 0; i < size; i++) {
                values[i] = 0;
            }
        }

        void put(int i, int number) {
            if (i >= 0 && i < size) {
                values[i] = number;
            }
        }

        int at(int i) {
            return i >= 0 && i < size ? values[i] : NONE;
        }

        int nextSeparator(int from, int end) {
            for (int i = from; i < end; i++) {
                if (at(i) == SEPARATOR) {
                    return i;
                }
            }
            return end;
        }

        long numberAt(int from, int end) {
            long number = 0;
            for (int i = from; i < end; i++) {
                number = number * 10 + at(i);
            }
            return number;
        }
    }

    /** The known prefixes, each at its own place; a length of 0 tells that it is not known. */
    private static final class Prefixes {
        private final int[] lengths;
        private final boolean[] fixed;
        private final int[] stations;
        private final int[] needs;
        private int size;

        Prefixes() {
            lengths = new int[MAX_PREFIX + 1];
            fixed = new boolean[MAX_PREFIX + 1];
            stations = new int[MAX_PREFIX + 1];
            needs = new int[MAX_PREFIX + 1];
            size = 0;
        }

        int size() {
            return size;
        }

        boolean has(int prefix) {
            return prefix >= MIN_PREFIX && prefix <= MAX_PREFIX && lengths[prefix] > 0;
        }

        void put(int prefix, int length, boolean isFixed, int station) {
            if (!isPrefix(prefix)) {
                return;
            }
            if (!has(prefix)) {
                size++;
            }
            lengths[prefix] = length;
            fixed[prefix] = isFixed;
            stations[prefix] = station;
            needs[prefix] = NO_NEED;
        }

        void putNeed(int prefix, int other) {
            if (has(prefix)) {
                needs[prefix] = other;
            }
        }

        int lengthOf(int prefix) {
            return has(prefix) ? lengths[prefix] : 0;
        }

        boolean isFixed(int prefix) {
            return has(prefix) && fixed[prefix];
        }

        int stationOf(int prefix) {
            return has(prefix) ? stations[prefix] : ANY_STATION;
        }

        int needOf(int prefix) {
            return has(prefix) ? needs[prefix] : NO_NEED;
        }

        boolean lets(int prefix, int digits) {
            int length = lengthOf(prefix);
            return isFixed(prefix) ? digits == length : digits <= length;
        }

        int nearTo(int unknown, int i) {
            int before = 0;
            for (int prefix = MIN_PREFIX; prefix <= MAX_PREFIX; prefix++) {
                if (has(prefix) && differInOneDigit(prefix, unknown)) {
                    if (before == i) {
                        return prefix;
                    }
                    before++;
                }
            }
            return NONE;
        }

        private static boolean differInOneDigit(int one, int other) {
            boolean tensDiffer = one / 10 != other / 10;
            boolean onesDiffer = one % 10 != other % 10;
            return tensDiffer != onesDiffer;
        }
    }

    /** The fields of a label, in their order. */
    private static final class Fields {
        private final int[] prefixes;
        private final int[] digits;
        private final long[] numbers;
        private int size;

        Fields() {
            prefixes = new int[MAX_FIELDS];
            digits = new int[MAX_FIELDS];
            numbers = new long[MAX_FIELDS];
            size = 0;
        }

        int size() {
            return size;
        }

        void empty() {
            size = 0;
        }

        void add(int prefix, int digitCount, long number) {
            if (size < MAX_FIELDS) {
                prefixes[size] = prefix;
                digits[size] = digitCount;
                numbers[size] = number;
                size++;
            }
        }

        boolean has(int prefix) {
            for (int i = 0; i < size; i++) {
                if (prefixes[i] == prefix) {
                    return true;
                }
            }
            return false;
        }

        int prefixAt(int i) {
            return i >= 0 && i < size ? prefixes[i] : NONE;
        }

        int digitsAt(int i) {
            return i >= 0 && i < size ? digits[i] : 0;
        }

        long numberAt(int i) {
            return i >= 0 && i < size ? numbers[i] : 0;
        }
    }

    /** Signs to modules and back, as one form has them. */
    private static final class Coder {
        private static final int WORD_MODULES = 7;
        private static final int PLAIN_MODULES = 4;
        private static final int WORDS = 16;
        private static final int MENDABLE = 2;

        private final int form;
        private final int width;
        private int mended;

        Coder(int form) {
            this.form = form;
            width = form == 0 ? PLAIN_MODULES : WORD_MODULES;
            mended = 0;
        }

        int form() {
            return form;
        }

        int mendedLast() {
            return mended;
        }

        void encode(Row signs, Row modules) {
            int length = signs.size();
            modules.zeros(length * width);
            for (int s = 0; s < length; s++) {
                int word = wordOf(signs.at(s));
                for (int k = 0; k < width; k++) {
                    modules.put(placeOf(s, k, length), (word >> (width - 1 - k)) & 1);
                }
            }
        }

        /** Whether the modules are whole signs that can all be mended. */
        boolean decode(Row modules, Row signs) {
            mended = 0;
            signs.empty();
            int length = form == 0 ? modules.size() / PLAIN_MODULES : modules.size() / WORD_MODULES;
            if (length * width != modules.size()) {
                return false;
            }
            for (int s = 0; s < length; s++) {
                int sign = decodeSign(modules, s, length);
                if (sign < 0 || sign > SEPARATOR) {
                    return false;
                }
                signs.add(sign);
            }
            return true;
        }

        private int decodeSign(Row modules, int s, int length) {
            int ones = 0;
            int erased = 0;
            for (int k = 0; k < width; k++) {
                int module = modules.at(placeOf(s, k, length));
                ones = ones * 2 + (module == 1 ? 1 : 0);
                erased = erased * 2 + (module == ERASED ? 1 : 0);
            }
            if (form == 0) {
                return erased == 0 ? ones : NONE;
            }
            return mend(ones, erased);
        }

        private int mend(int ones, int erased) {
            int gone = Integer.bitCount(erased);
            for (int sign = 0; sign < WORDS; sign++) {
                int otherwise = Integer.bitCount((wordOf(sign) ^ ones) & ~erased);
                if (2 * otherwise + gone <= MENDABLE) {
                    if (sign <= SEPARATOR) {
                        mended += otherwise + gone;
                    }
                    return sign;
                }
            }
            return NONE;
        }

        private int placeOf(int s, int k, int length) {
            return form == MAX_FORM ? k * length + s : s * width + k;
        }

        private int wordOf(int sign) {
            if (form == 0) {
                return sign;
            }
            int a = (sign >> 3) & 1;
            int b = (sign >> 2) & 1;
            int c = (sign >> 1) & 1;
            int d = sign & 1;
            return sign << 3 | (a ^ b ^ d) << 2 | (a ^ c ^ d) << 1 | (b ^ c ^ d);
        }
    }

    /** Takes signs apart and keeps what came of the last ones. */
    private static final class Taker {
        private final Prefixes prefixes;
        private final Fields fields;
        private int unknown;

        Taker(Prefixes prefixes) {
            this.prefixes = prefixes;
            fields = new Fields();
            unknown = NONE;
        }

        Fields fields() {
            return fields;
        }

        /** The two digits that were no known prefix, where just that was wrong. */
        int unknownPrefix() {
            return unknown;
        }

        void forget() {
            fields.empty();
            unknown = NONE;
        }

        int takeApart(Row signs) {
            forget();
            int wrong = firstWrong(signs);
            if (wrong < 0) {
                fields.empty();
                return wrong;
            }
            return fields.size();
        }

        private int firstWrong(Row signs) {
            int end = signs.size() - 1;
            if (signs.size() < MIN_SIGNS || signs.at(end) == SEPARATOR) {
                return TOO_SHORT;
            }
            if (signs.at(end) != checkSign(signs, end)) {
                return WRONG_CHECK;
            }
            int at = 0;
            for (int i = 0; i < MAX_FIELDS && at < end; i++) {
                at = takeField(signs, at, end);
                if (at < 0) {
                    return at;
                }
            }
            if (at < end) {
                return TOO_MANY_FIELDS;
            }
            return needsAreThere() ? 0 : NEED_MISSING;
        }

        /** The place behind the field, or what is wrong with it. */
        private int takeField(Row signs, int at, int end) {
            int from = at + PREFIX_DIGITS;
            if (from > end || signs.nextSeparator(at, from) < from) {
                return WRONG_PREFIX;
            }
            int prefix = (int) signs.numberAt(at, from);
            if (!prefixes.has(prefix)) {
                unknown = prefix;
                return WRONG_PREFIX;
            }
            if (fields.has(prefix)) {
                return WRONG_PREFIX;
            }
            return prefixes.isFixed(prefix)
                    ? takeFixed(signs, prefix, from, end)
                    : takeLoose(signs, prefix, from, end);
        }

        private int takeFixed(Row signs, int prefix, int from, int end) {
            int length = prefixes.lengthOf(prefix);
            if (end - from < length) {
                return WRONG_LENGTH;
            }
            int stop = from + length;
            if (signs.nextSeparator(from, stop) < stop) {
                return WRONG_SEPARATOR;
            }
            fields.add(prefix, length, signs.numberAt(from, stop));
            return stop;
        }

        private int takeLoose(Row signs, int prefix, int from, int end) {
            int stop = signs.nextSeparator(from, end);
            int digits = stop - from;
            if (digits < 1 || digits > prefixes.lengthOf(prefix)) {
                return WRONG_LENGTH;
            }
            if (stop == end - 1) {
                return WRONG_SEPARATOR;
            }
            fields.add(prefix, digits, signs.numberAt(from, stop));
            return stop < end ? stop + 1 : end;
        }

        private boolean needsAreThere() {
            for (int i = 0; i < fields.size(); i++) {
                int need = prefixes.needOf(fields.prefixAt(i));
                if (need != NO_NEED && !fields.has(need)) {
                    return false;
                }
            }
            return true;
        }
    }

    /** The different labels that stations took, and when each station took each of them last. */
    private static final class ScanLog {
        private static final long NUMBERS = 1000000000000L;
        private static final int LENGTHS = 16;

        private final long[] keys;
        private final int[] seconds;
        private int size;

        ScanLog() {
            keys = new long[MAX_LABELS * MAX_FIELDS];
            seconds = new int[MAX_LABELS * STATIONS];
            Arrays.fill(seconds, NEVER);
            size = 0;
        }

        int size() {
            return size;
        }

        boolean isFull() {
            return size >= MAX_LABELS;
        }

        int placeOf(Fields label) {
            for (int place = 0; place < size; place++) {
                if (isAt(label, place)) {
                    return place;
                }
            }
            return NONE;
        }

        int add(Fields label) {
            if (isFull()) {
                return NONE;
            }
            for (int i = 0; i < MAX_FIELDS; i++) {
                keys[size * MAX_FIELDS + i] = keyOf(label, i);
            }
            size++;
            return size - 1;
        }

        /** A doubled scan leaves the second as it was: only the earlier one counts for later scans. */
        boolean accepts(int place, int station, int second) {
            if (place < 0 || place >= size || !isStation(station)) {
                return false;
            }
            int index = place * STATIONS + station;
            int before = seconds[index];
            if (before != NEVER && second - before <= DOUBLED_SECONDS) {
                return false;
            }
            seconds[index] = second;
            return true;
        }

        private boolean isAt(Fields label, int place) {
            for (int i = 0; i < MAX_FIELDS; i++) {
                if (keys[place * MAX_FIELDS + i] != keyOf(label, i)) {
                    return false;
                }
            }
            return true;
        }

        /** Prefix, length and number as one; 0 where the label has no such field. */
        private static long keyOf(Fields label, int i) {
            if (i >= label.size()) {
                return 0;
            }
            long head = label.prefixAt(i) * LENGTHS + label.digitsAt(i);
            return head * NUMBERS + label.numberAt(i);
        }
    }
}
