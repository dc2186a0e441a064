import java.util.NoSuchElementException;

/** What the tests share: calls with the answer that is due, and short ways to fill an object. */
final class Due {
    interface Call {
        long answer();
    }

    interface Deed {
        void run();
    }

    static final Class<? extends RuntimeException> NO_SUCH = NoSuchElementException.class;
    static final Class<? extends RuntimeException> ARGUMENT = IllegalArgumentException.class;
    static final Class<? extends RuntimeException> STATE = IllegalStateException.class;
    static final Class<? extends RuntimeException> NO_ROOM = UnsupportedOperationException.class;
    static final Class<? extends RuntimeException> INDEX = ArrayIndexOutOfBoundsException.class;

    private static int asked = 0;
    private static int wrong = 0;
    private static String about = "";

    private Due() {
    }

    static void is(String what, long due, Call call) {
        String got;
        try {
            got = Long.toString(call.answer());
        } catch (RuntimeException e) {
            got = e.toString();
        }
        compare(what, Long.toString(due), got);
    }

    static void refused(String what, Class<? extends RuntimeException> due, Deed deed) {
        String got = "nothing";
        try {
            deed.run();
        } catch (RuntimeException e) {
            got = e.getClass().getName();
            // The machine writes such a text, the class never does.
            if (e.getMessage() != null && e.getMessage().contains("out of bounds for length")) {
                got = "the machine's " + got;
            }
        }
        compare(what + " throws", due.getName(), got);
    }

    static void compare(String what, String due, String got) {
        asked++;
        if (!due.equals(got)) {
            wrong++;
            System.out.println(about + what + " answered " + got + ", due is " + due);
        }
    }

    /** One test under its own name: how many of its answers are wrong. */
    static int test(String name, Deed body) {
        int before = wrong;
        about = name + ": ";
        try {
            body.run();
        } catch (RuntimeException e) {
            compare("a call that should be answered", "an answer", e.toString());
        }
        about = "";
        return wrong - before;
    }

    static void done(String test) {
        System.out.println(test + ": " + asked + " answers, " + wrong + " wrong");
        if (wrong != 0 || asked == 0) {
            System.exit(1);
        }
    }

    /** Types signs: digits as they are, a separator as '/'. */
    static void type(ScanCodes x, String signs) {
        for (int i = 0; i < signs.length(); i++) {
            x.typed(signOf(signs.charAt(i)));
        }
    }

    /** Types signs anew, with the check sign that is due behind them. */
    static void typeChecked(ScanCodes x, String signs) {
        x.clear();
        type(x, signs);
        x.typed(x.check());
    }

    /** Takes typed signs apart, with their due check sign behind them. */
    static long apart(ScanCodes x, String signs) {
        typeChecked(x, signs);
        return x.parseTyped();
    }

    /** Reads modules: 0, 1, and '?' for an erased one; blanks are passed over. */
    static void read(ScanCodes x, String modules) {
        for (int i = 0; i < modules.length(); i++) {
            char c = modules.charAt(i);
            if (c != ' ') {
                x.read(c == '?' ? 2 : c - '0');
            }
        }
    }

    static long readApart(ScanCodes x, String modules) {
        x.clear();
        read(x, modules);
        return x.parse();
    }

    /** The modules of the label that was made last. */
    static String modules(ScanCodes x) {
        StringBuilder all = new StringBuilder();
        int size = x.count(2);
        for (int i = 0; i < size; i++) {
            all.append(x.module(i));
        }
        return all.toString();
    }

    static int signOf(char c) {
        return c == '/' ? 10 : c - '0';
    }
}
