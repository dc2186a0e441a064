/** Promise 18 (scan). */
public final class ScanTest {
    private static ScanCodes withPrefixes() {
        ScanCodes x = new ScanCodes(0);
        x.prefix(10, 4, false, -1);
        x.prefix(20, 2, true, 2);
        x.prefix(30, 2, true, 3);
        x.prefix(40, 12, false, -1);
        return x;
    }

    private static void stations() {
        ScanCodes x = withPrefixes();
        Due.apart(x, "10123");
        for (int station = 0; station < 8; station++) {
            int n = station;
            Due.is("any station: " + n, 1, () -> x.scan(n, 0));
        }
        Due.is("one label at eight stations", 1, () -> x.count(6));
        Due.apart(x, "107/2012");
        Due.is("the second field's station", -2, () -> x.scan(1, 0));
        Due.is("not counted", 1, () -> x.count(6));
        Due.is("its station", 2, () -> x.scan(2, 0));
        Due.is("counted", 2, () -> x.count(6));
        Due.apart(x, "20123012");
        Due.is("no station takes both: the first at 3", -1, () -> x.scan(3, 0));
        Due.is("no station takes both: the second at 2", -2, () -> x.scan(2, 0));
        Due.is("both are wrong: the first", -1, () -> x.scan(0, 0));
        x.prefix(20, 2, true, 3);
        Due.is("as the stations are now", 2, () -> x.scan(3, 0));
        x.prefix(20, 9, false, -1);
        Due.is("any station now", 0, () -> x.scan(3, 1));
        x.prefix(30, 2, true, 4);
        Due.is("a station comes before a doubled scan", -2, () -> x.scan(3, 1));
    }

    private static void doubled() {
        ScanCodes x = withPrefixes();
        Due.apart(x, "10123");
        Due.is("first", 1, () -> x.scan(0, 5));
        Due.is("the same second", 0, () -> x.scan(0, 5));
        Due.is("another station", 1, () -> x.scan(1, 6));
        Due.is("ten seconds", 0, () -> x.scan(0, 15));
        Due.is("the doubled one does not count: eleven", 1, () -> x.scan(0, 16));
        Due.is("ten of the other station", 0, () -> x.scan(1, 16));
        Due.is("eleven of the other station", 1, () -> x.scan(1, 17));
        Due.is("ten again", 0, () -> x.scan(0, 26));
        Due.is("eleven again", 1, () -> x.scan(0, 27));
        Due.is("one label", 1, () -> x.count(6));
        Due.is("the last second there is", 1, () -> x.scan(0, Integer.MAX_VALUE));
        Due.is("and again", 0, () -> x.scan(0, Integer.MAX_VALUE));
        Due.is("and elsewhere", 1, () -> x.scan(7, Integer.MAX_VALUE));
    }

    private static void fromZero() {
        ScanCodes x = withPrefixes();
        Due.apart(x, "10123");
        Due.is("at second 0", 1, () -> x.scan(0, 0));
        Due.is("ten later", 0, () -> x.scan(0, 10));
        Due.is("eleven later", 1, () -> x.scan(0, 11));
    }

    private static void different() {
        ScanCodes x = withPrefixes();
        String[] labels = {"101", "1001", "102", "401", "101/401", "401/101", "101/402", "1012", "101/4001", "1001/401",
            "101/4000000000001", "1010"};
        for (int i = 0; i < labels.length; i++) {
            String label = labels[i];
            Due.apart(x, label);
            Due.is("new: " + label, label.contains("/") ? 2 : 1, () -> x.scan(0, 1));
            Due.is("doubled: " + label, 0, () -> x.scan(0, 1));
            Due.is("how many", i + 1, () -> x.count(6));
        }
        x.clear();
        Due.apart(x, "1001");
        Due.is("clear() forgets no scan", 0, () -> x.scan(0, 2));
        Due.readApart(x, "0001 0000 0000 0001 0110");
        Due.is("the same label, read", 0, () -> x.scan(0, 2));
    }

    private static void refusedByStation() {
        ScanCodes x = withPrefixes();
        Due.apart(x, "2012");
        Due.is("refused", -1, () -> x.scan(1, 5));
        Due.refused("a refused scan's second counts", Due.ARGUMENT, () -> x.scan(2, 4));
        Due.is("no label yet", 0, () -> x.count(6));
        Due.is("not doubled by a refused one", 1, () -> x.scan(2, 5));
        Due.is("a doubled one's second counts", 0, () -> x.scan(2, 9));
        Due.refused("before the doubled one", Due.ARGUMENT, () -> x.scan(2, 8));
        x.prefix(20, 2, true, 5);
        Due.is("the new station is another", 1, () -> x.scan(5, 9));
        x.prefix(20, 2, true, 2);
        Due.is("refused at 5 now", -1, () -> x.scan(5, 12));
        x.prefix(20, 2, true, -1);
        Due.is("the refused one left the earlier", 1, () -> x.scan(5, 20));
    }

    private static void refusals() {
        ScanCodes x = withPrefixes();
        Due.refused("nothing taken apart", Due.STATE, () -> x.scan(0, 0));
        int[] bad = {-1, 8, Integer.MIN_VALUE, Integer.MAX_VALUE};
        for (int station : bad) {
            Due.refused("nothing, station " + station, Due.ARGUMENT, () -> x.scan(station, 0));
        }
        Due.refused("nothing, second -1", Due.ARGUMENT, () -> x.scan(0, -1));
        Due.apart(x, "10123");
        for (int station : bad) {
            Due.refused("station " + station, Due.ARGUMENT, () -> x.scan(station, 0));
        }
        Due.refused("second -1", Due.ARGUMENT, () -> x.scan(0, -1));
        Due.refused("the least second", Due.ARGUMENT, () -> x.scan(0, Integer.MIN_VALUE));
        Due.refused("a great second at no station", Due.ARGUMENT, () -> x.scan(8, 100));
        Due.is("it did not count", 1, () -> x.scan(0, 7));
        Due.refused("before the last", Due.ARGUMENT, () -> x.scan(1, 6));
        Due.is("the last itself", 1, () -> x.scan(1, 7));
        Due.apart(x, "99123");
        Due.refused("could not be taken apart", Due.STATE, () -> x.scan(0, 500));
        Due.refused("the second comes first", Due.ARGUMENT, () -> x.scan(0, 6));
        Due.apart(x, "10123");
        Due.is("a refused second did not count", 0, () -> x.scan(0, 8));
    }

    private static void forty() {
        ScanCodes x = withPrefixes();
        for (int i = 0; i < 40; i++) {
            int n = i;
            Due.apart(x, "10" + (char) ('0' + n / 10) + (char) ('0' + n % 10));
            Due.is("label " + n, 1, () -> x.scan(n % 8, n));
        }
        Due.is("forty", 40, () -> x.count(6));
        Due.apart(x, "1040");
        Due.refused("a forty-first", Due.NO_ROOM, () -> x.scan(0, 100));
        Due.apart(x, "2012");
        Due.refused("asked before its stations", Due.NO_ROOM, () -> x.scan(0, 100));
        Due.refused("the second comes first", Due.ARGUMENT, () -> x.scan(0, 38));
        x.clear();
        Due.refused("the state comes first", Due.STATE, () -> x.scan(0, 100));
        Due.apart(x, "1039");
        Due.is("one of the forty, doubled; 100 did not count", 0, () -> x.scan(7, 40));
        Due.apart(x, "1000");
        Due.is("one of the forty, again", 1, () -> x.scan(0, 40));
        Due.is("one of the forty, elsewhere", 1, () -> x.scan(1, 40));
        x.prefix(10, 4, false, 3);
        Due.is("one of the forty, refused", -1, () -> x.scan(1, 60));
        Due.is("still forty", 40, () -> x.count(6));
    }

    public static void main(String[] args) {
        stations();
        doubled();
        fromZero();
        different();
        refusedByStation();
        refusals();
        forty();
        Due.done("ScanTest");
    }
}
