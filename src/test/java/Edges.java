import java.util.ArrayList;
import java.util.List;

/** The boundary cases that the document names, each a test of its own under the promise and the sentence it is of. */
final class Edges {
    /** The run of one case, and a change of the class by which its sentence would be broken. */
    record Edge(String name, Due.Deed run, String in, String from, String to) {
    }

    /** Words of the document, as they stand there, and the promise that they are of or that uses them. */
    final class Sentence {
        private final String head;

        private Sentence(int promise, String words) {
            head = "Promise " + promise + ", '" + words + "': ";
        }

        /** In the class, behind the words 'in', the first 'from' would be 'to': see .ci/mutants. */
        void edge(String what, Due.Deed run, String in, String from, String to) {
            edges.add(new Edge(head + what, run, in, from, to));
        }
    }

    private final List<Edge> edges = new ArrayList<>();

    static List<Edge> all() {
        Edges all = new Edges();
        PrefixEdges.addTo(all);
        LabelEdges.addTo(all);
        ReadEdges.addTo(all);
        TypedEdges.addTo(all);
        ApartEdges.addTo(all);
        KnownEdges.addTo(all);
        ScanEdges.addTo(all);
        return all.edges;
    }

    Sentence sentence(int promise, String words) {
        return new Sentence(promise, words);
    }

    /** A new object that knows these fixed prefixes, each with its length behind it. */
    static ScanCodes fixed(int form, int... prefixesAndLengths) {
        return with(new ScanCodes(form), true, prefixesAndLengths);
    }

    /** A new object that knows these prefixes, not fixed, each with its length behind it. */
    static ScanCodes loose(int form, int... prefixesAndLengths) {
        return with(new ScanCodes(form), false, prefixesAndLengths);
    }

    static ScanCodes with(ScanCodes x, boolean fixed, int... prefixesAndLengths) {
        for (int i = 0; i + 1 < prefixesAndLengths.length; i += 2) {
            x.prefix(prefixesAndLengths[i], prefixesAndLengths[i + 1], fixed, -1);
        }
        return x;
    }
}
