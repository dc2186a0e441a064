import java.util.HashSet;
import java.util.List;
import java.util.Set;

/** Runs each boundary case of the document as a test of its own. */
public final class EdgeTest {
    /** How many answers of one case are wrong; .ci/mutants asks this of changed classes. */
    static int wrongOf(int edge) {
        Edges.Edge one = Edges.all().get(edge);
        return Due.test(one.name(), one.run());
    }

    public static void main(String[] args) {
        List<Edges.Edge> all = Edges.all();
        Set<String> names = new HashSet<>();
        Set<Integer> promises = new HashSet<>();
        for (Edges.Edge edge : all) {
            Due.is("the name is its own: " + edge.name(), 1, () -> names.add(edge.name()) ? 1 : 0);
            promises.add(Integer.parseInt(edge.name().replaceAll("^Promise (\\d+),.*$", "$1")));
            Due.test(edge.name(), edge.run());
            if (args.length > 0) {
                System.out.println(edge.name());
            }
        }
        Due.is("promises with boundary cases", 19, () -> promises.size());
        System.out.println(all.size() + " boundary cases");
        Due.done("EdgeTest");
    }
}
