import java.util.ArrayList;
import java.util.HashMap;
import java.util.List;
import java.util.Map;
import java.util.NoSuchElementException;
import java.util.TreeMap;
import java.util.regex.Matcher;
import java.util.regex.Pattern;

/** The document said a second time, with texts and maps instead of rows; slow, and only for tests. */
final class Model {
    private record Prefix(int length, boolean fixed, int station, int need) {
    }

    private record Field(int prefix, String digits) {
    }

    private final int form;
    private final TreeMap<Integer, Prefix> prefixes = new TreeMap<>();
    private final List<Field> written = new ArrayList<>();
    private String made = "";
    private String modulesRead = "";
    private String signsTyped = "";
    private List<Field> taken = List.of();
    private String unknown = "";
    private int mended = 0;
    private final Map<String, Map<Integer, Integer>> scans = new HashMap<>();
    private int lastSecond = 0;

    Model(int form) {
        this.form = form < 0 ? 0 : form > 2 ? 2 : form;
    }

    private static void refuse(boolean when, RuntimeException with) {
        if (when) {
            throw with;
        }
    }

    private static RuntimeException argument() {
        return new IllegalArgumentException();
    }

    private static RuntimeException state() {
        return new IllegalStateException();
    }

    private static RuntimeException noRoom() {
        return new UnsupportedOperationException();
    }

    private static RuntimeException noSuch() {
        return new NoSuchElementException();
    }

    long prefix(int prefix, int length, boolean fixed, int station) {
        refuse(!(10 <= prefix && prefix <= 99 && 1 <= length && length <= 12 && -1 <= station && station <= 7),
                argument());
        refuse(prefixes.size() == 16 && !prefixes.containsKey(prefix), noRoom());
        prefixes.put(prefix, new Prefix(length, fixed, station, 0));
        return prefixes.size();
    }

    void needs(int prefix, int other) {
        Prefix old = prefixes.get(prefix);
        refuse(old == null, noSuch());
        refuse(other == prefix || !(other == 0 || 10 <= other && other <= 99), argument());
        prefixes.put(prefix, new Prefix(old.length, old.fixed, old.station, other));
    }

    void begin() {
        written.clear();
    }

    long field(int prefix, long number, int digits) {
        Prefix known = prefixes.get(prefix);
        refuse(known == null, noSuch());
        refuse(number < 0 || digits < 1 || digits > 12 || Long.toString(number).length() > digits, argument());
        refuse(digits > known.length || known.fixed && digits < known.length, argument());
        refuse(written.size() == 6 || written.stream().anyMatch(f -> f.prefix == prefix), state());
        String zeros = "0".repeat(digits - Long.toString(number).length());
        written.add(new Field(prefix, zeros + number));
        return written.size();
    }

    long make() {
        refuse(written.isEmpty(), state());
        StringBuilder signs = new StringBuilder();
        for (Field field : written) {
            signs.append(field.prefix).append(field.digits);
            if (!prefixes.get(field.prefix).fixed) {
                signs.append('/');
            }
        }
        if (signs.charAt(signs.length() - 1) == '/') {
            signs.deleteCharAt(signs.length() - 1);
        }
        refuse(signs.length() > 59, noRoom());
        signs.append(checkOf(signs.toString()));
        made = modulesOf(signs.toString());
        return made.length();
    }

    private String modulesOf(String signs) {
        List<String> words = new ArrayList<>();
        for (char c : signs.toCharArray()) {
            words.add(wordOf(c == '/' ? 10 : c - '0'));
        }
        return form == 2 ? turned(String.join("", words), 7) : String.join("", words);
    }

    /** Rows of so many modules written column by column. */
    private static String turned(String modules, int width) {
        StringBuilder all = new StringBuilder();
        for (int k = 0; k < width; k++) {
            for (int i = k; i < modules.length(); i += width) {
                all.append(modules.charAt(i));
            }
        }
        return all.toString();
    }

    private String wordOf(int sign) {
        String bits = Integer.toBinaryString(16 + sign).substring(1);
        if (form == 0) {
            return bits;
        }
        int a = bits.charAt(0) - '0';
        int b = bits.charAt(1) - '0';
        int c = bits.charAt(2) - '0';
        int d = bits.charAt(3) - '0';
        return bits + (a + b + d) % 2 + (a + c + d) % 2 + (b + c + d) % 2;
    }

    long module(int i) {
        refuse(i < 0 || i >= made.length(), new ArrayIndexOutOfBoundsException());
        return made.charAt(i) - '0';
    }

    void clear() {
        modulesRead = "";
        signsTyped = "";
        taken = List.of();
        unknown = "";
        mended = 0;
    }

    long read(int value) {
        refuse(value < 0 || value > 2, argument());
        refuse(modulesRead.length() == 420, noRoom());
        modulesRead += value;
        return modulesRead.length();
    }

    long typed(int sign) {
        refuse(sign < 0 || sign > 10, argument());
        refuse(signsTyped.length() == 60, noRoom());
        signsTyped += sign == 10 ? "/" : "" + sign;
        return signsTyped.length();
    }

    long parse() {
        refuse(modulesRead.isEmpty(), state());
        taken = List.of();
        unknown = "";
        mended = 0;
        int width = form == 0 ? 4 : 7;
        if (modulesRead.length() % width != 0) {
            return 0;
        }
        String modules = form == 2 ? turned(modulesRead, modulesRead.length() / 7) : modulesRead;
        StringBuilder signs = new StringBuilder();
        for (int i = 0; i < modules.length(); i += width) {
            int sign = signOf(modules.substring(i, i + width));
            if (sign > 10) {
                return 0;
            }
            signs.append(sign == 10 ? "/" : "" + sign);
        }
        return apart(signs.toString());
    }

    /** The sign of a word that may be mended, or 16. */
    private int signOf(String word) {
        for (int sign = 0; sign < 16; sign++) {
            String right = wordOf(sign);
            int otherwise = 0;
            int erased = 0;
            for (int k = 0; k < word.length(); k++) {
                if (word.charAt(k) == '2') {
                    erased++;
                } else if (word.charAt(k) != right.charAt(k)) {
                    otherwise++;
                }
            }
            if (2 * otherwise + erased <= (form == 0 ? 0 : 2)) {
                mended += sign > 10 ? 0 : otherwise + erased;
                return sign;
            }
        }
        return 16;
    }

    long parseTyped() {
        refuse(signsTyped.isEmpty(), state());
        return apart(signsTyped);
    }

    private static int checkOf(String signs) {
        for (int check = 0; check < 10; check++) {
            int sum = check;
            for (int i = 0; i < signs.length(); i++) {
                int sign = signs.charAt(i) == '/' ? 10 : signs.charAt(i) - '0';
                sum += (signs.length() - i) % 2 == 1 ? 3 * sign : sign;
            }
            if (sum % 10 == 0) {
                return check;
            }
        }
        return -1;
    }

    private int apart(String signs) {
        taken = List.of();
        unknown = "";
        if (signs.length() < 4 || signs.endsWith("/")) {
            return -1;
        }
        String rest = signs.substring(0, signs.length() - 1);
        if (!signs.equals(rest + checkOf(rest))) {
            return -2;
        }
        List<Field> found = new ArrayList<>();
        while (!rest.isEmpty()) {
            if (found.size() == 6) {
                return -3;
            }
            if (!rest.matches("\\d\\d.*")) {
                return -4;
            }
            int prefix = Integer.parseInt(rest.substring(0, 2));
            if (!prefixes.containsKey(prefix)) {
                unknown = rest.substring(0, 2);
                return -4;
            }
            if (found.stream().anyMatch(f -> f.prefix == prefix)) {
                return -4;
            }
            rest = rest.substring(2);
            Prefix known = prefixes.get(prefix);
            if (known.fixed) {
                if (rest.length() < known.length) {
                    return -5;
                }
                if (rest.substring(0, known.length).contains("/")) {
                    return -6;
                }
                found.add(new Field(prefix, rest.substring(0, known.length)));
                rest = rest.substring(known.length);
            } else {
                Matcher matcher = Pattern.compile("(\\d{1," + known.length + "})($|/)(.*)").matcher(rest);
                if (!matcher.matches()) {
                    return -5;
                }
                rest = matcher.group(3);
                if (matcher.group(2).equals("/") && rest.isEmpty()) {
                    return -6;
                }
                found.add(new Field(prefix, matcher.group(1)));
            }
        }
        for (Field field : found) {
            int need = prefixes.get(field.prefix).need;
            if (need != 0 && found.stream().noneMatch(f -> f.prefix == need)) {
                return -7;
            }
        }
        taken = found;
        return found.size();
    }

    long check() {
        refuse(signsTyped.isEmpty(), state());
        return checkOf(signsTyped);
    }

    long known(int i, int what) {
        refuse(i < 0 || i >= taken.size(), noSuch());
        refuse(what != 0 && what != 1, argument());
        return what == 0 ? taken.get(i).prefix : taken.get(i).digits.length();
    }

    long value(int i) {
        refuse(i < 0 || i >= taken.size(), noSuch());
        return Long.parseLong(taken.get(i).digits);
    }

    long mended() {
        return mended;
    }

    long hint(int i) {
        refuse(i < 0, argument());
        List<Integer> near = new ArrayList<>();
        if (!unknown.isEmpty()) {
            for (int prefix : prefixes.keySet()) {
                String digits = "" + prefix;
                int same = (digits.charAt(0) == unknown.charAt(0) ? 1 : 0)
                        + (digits.charAt(1) == unknown.charAt(1) ? 1 : 0);
                if (same == 1) {
                    near.add(prefix);
                }
            }
        }
        return i < near.size() ? near.get(i) : -1;
    }

    long scan(int station, int second) {
        refuse(station < 0 || station > 7 || second < lastSecond, argument());
        refuse(taken.isEmpty(), state());
        String label = taken.toString();
        refuse(scans.size() == 40 && !scans.containsKey(label), noRoom());
        lastSecond = second;
        for (int i = 0; i < taken.size(); i++) {
            int own = prefixes.get(taken.get(i).prefix).station;
            if (own >= 0 && own != station) {
                return -(1 + i);
            }
        }
        Map<Integer, Integer> stations = scans.computeIfAbsent(label, l -> new HashMap<>());
        if (stations.containsKey(station) && second - stations.get(station) <= 10) {
            return 0;
        }
        stations.put(station, second);
        return taken.size();
    }

    long count(int what) {
        int[] counts = {prefixes.size(), written.size(), made.length(), modulesRead.length(), signsTyped.length(),
            taken.size(), scans.size(), form};
        return what >= 0 && what < counts.length ? counts[what] : -1;
    }

    /** What the runs of the tests choose by. */
    List<Integer> knownPrefixes() {
        return new ArrayList<>(prefixes.keySet());
    }

    int lengthOf(int prefix) {
        return prefixes.get(prefix).length;
    }

    boolean isFixed(int prefix) {
        return prefixes.get(prefix).fixed;
    }

    String madeModules() {
        return made;
    }
}
