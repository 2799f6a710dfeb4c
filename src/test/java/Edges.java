import java.util.ArrayList;
import java.util.Arrays;
import java.util.List;
import java.util.Map;
import java.util.Set;
import java.util.TreeSet;

/**
 * A call on the edges of what its arguments are: with the last values that are taken, and with the first ones
 * that are refused, one argument and two arguments at once, in an office that has faults of its own or none.
 */
final class Edges {
    interface Made {
        Object by(Equaltexts x, int[] a);
    }

    interface Office {
        Equaltexts built();
    }

    /** What is taken, what is refused, and by which exception. */
    record Argument(int[] taken, int[] refused, Fault fault) {
    }

    private static final Map<String, List<String>> ROWS = Document.rows();
    /** Which rows of the document were due, and which ones applied together, as "call row" and "call row row". */
    private static final Set<String> SEEN = new TreeSet<>();

    private final String call;
    private final Office office;
    private final Made made;
    private final Argument[] arguments;

    private Edges(String call, Office office, Made made, Argument... arguments) {
        this.call = call;
        this.office = office;
        this.made = made;
        this.arguments = arguments;
    }

    static Edges of(String call, Office office, Made made, Argument... arguments) {
        return new Edges(call, office, made, arguments);
    }

    // ---- arguments

    /** A number of something of which there are so many. */
    static Argument index(int size) {
        return between(Fault.IOOBE, 0, size - 1);
    }

    /** Some of the numbers of things of which there are so many. */
    static Argument someOf(int size, int... taken) {
        return new Argument(taken, index(size).refused, Fault.IOOBE);
    }

    static Argument range(int least, int most) {
        return between(Fault.IAE, least, most);
    }

    static Argument between(Fault fault, int least, int most) {
        int[] refused = {Integer.MIN_VALUE, least - 1, most + 1, Integer.MAX_VALUE};
        return new Argument(new int[] {least, most}, refused, fault);
    }

    static Argument any(int... taken) {
        return new Argument(taken, new int[0], Fault.IAE);
    }

    // ---- calls

    /** Each edge that is taken is, each time in an office of its own. */
    Edges takes() {
        for (int[] chosen : choices(0, new int[arguments.length], new ArrayList<>())) {
            try {
                made.by(office.built(), chosen);
            } catch (RuntimeException e) {
                Check.due(told(chosen), "taken", e.getClass().getSimpleName());
            }
        }
        return this;
    }

    /** The office itself has these faults, whatever the arguments are. */
    Edges refuses(Fault... faults) {
        Equaltexts x = office.built();
        if (faults.length > 0) {
            for (int[] chosen : choices(0, new int[arguments.length], new ArrayList<>())) {
                fails(x, chosen, List.of(faults));
            }
        }
        for (int i = 0; i < arguments.length; i++) {
            for (int wrong : arguments[i].refused) {
                refuseWith(x, i, wrong, List.of(faults));
            }
        }
        return this;
    }

    private void refuseWith(Equaltexts x, int i, int wrong, List<Fault> faults) {
        int[] chosen = firstTaken();
        List<Fault> found = new ArrayList<>(faults);
        chosen[i] = wrong;
        found.add(arguments[i].fault);
        fails(x, chosen, found);
        for (int j = i + 1; j < arguments.length; j++) {
            for (int wrongToo : arguments[j].refused) {
                int[] two = chosen.clone();
                List<Fault> both = new ArrayList<>(found);
                two[j] = wrongToo;
                both.add(arguments[j].fault);
                fails(x, two, both);
            }
        }
    }

    /** Of the exceptions that apply the one that is documented first is due. */
    private void fails(Equaltexts x, int[] chosen, List<Fault> applying) {
        List<String> rows = ROWS.getOrDefault(call, List.of());
        Fault due = applying.get(0);
        for (Fault one : applying) {
            if (rows.indexOf(one.named()) < rows.indexOf(due.named())) {
                due = one;
            }
            for (Fault other : applying) {
                SEEN.add(call + " " + one.named() + " " + other.named());
            }
        }
        SEEN.add(call + " " + due.named());
        Check.fails(x, told(chosen), due.thrown, () -> made.by(x, chosen));
    }

    private int[] firstTaken() {
        int[] chosen = new int[arguments.length];
        for (int i = 0; i < chosen.length; i++) {
            chosen[i] = arguments[i].taken[0];
        }
        return chosen;
    }

    /** Each way to choose, of each argument, a value that is taken. */
    private List<int[]> choices(int from, int[] chosen, List<int[]> all) {
        if (from == arguments.length) {
            all.add(chosen.clone());
            return all;
        }
        for (int taken : arguments[from].taken) {
            chosen[from] = taken;
            choices(from + 1, chosen, all);
        }
        return all;
    }

    private String told(int[] chosen) {
        return call + Arrays.toString(chosen);
    }

    /** Each row of the document was due by now, and each two of a call were tried together. */
    static void allRowsSeen() {
        ROWS.forEach((call, rows) -> {
            for (int i = 0; i < rows.size(); i++) {
                Check.due("seen: " + call + " throws " + rows.get(i), true, SEEN.contains(call + " " + rows.get(i)));
                for (int j = 0; j < i; j++) {
                    Check.due("seen: " + call + " has both " + rows.get(j) + " and " + rows.get(i), true,
                        SEEN.contains(call + " " + rows.get(j) + " " + rows.get(i)));
                }
            }
        });
    }
}
