import java.util.ArrayList;
import java.util.Collections;
import java.util.Comparator;
import java.util.HashMap;
import java.util.HashSet;
import java.util.List;
import java.util.Map;
import java.util.NoSuchElementException;
import java.util.Set;
import java.util.stream.Collectors;
import java.util.stream.IntStream;

/**
 * The document once more, written apart from the class and with the Java library: texts are lists of words
 * such as "n30", what holds of a text is kept under the key of its place. RandomRunsTest compares both.
 */
final class Model {
    private record Version(String place, int day, List<String> text) {
    }

    private record Entry(String unit, String pair, int translator, List<String> source, List<String> target) {
    }

    private record Letter(int tongue, int day) {
    }

    private record Judgment(String unit, int found) {
    }

    private record Way(boolean isPivot, int days, long sum, int pivot, int first, int second, int tokens) {
    }

    private static final class Act {
        int purpose;
        int priority;
        int source;
        int changed;
        int deadline = 9999;
        boolean frozen;
        final List<Integer> levels = new ArrayList<>();
        final List<Integer> defined = new ArrayList<>();
        final Map<Integer, Integer> force = new HashMap<>();
    }

    private static final class Amendment {
        String unit;
        int act;
        int tongue;
        boolean compromise;
        char state = 'o';
        final Map<Integer, List<String>> texts = new HashMap<>();
    }

    private int day;
    private int tongues;
    private int concepts;
    private int corrigenda;
    private List<String> buffer = new ArrayList<>();
    private final Set<String> allowed = new HashSet<>();
    private final Map<String, Integer> counts = new HashMap<>();
    private final Map<String, Integer> meanings = new HashMap<>();
    private final List<Act> acts = new ArrayList<>();
    private final Map<String, List<String>> drafts = new HashMap<>();
    private final Set<String> fresh = new HashSet<>();
    private final Map<String, Integer> asks = new HashMap<>();
    private final Map<String, List<String>> translated = new HashMap<>();
    private final List<Version> versions = new ArrayList<>();
    private final List<Amendment> amendments = new ArrayList<>();
    private final List<Judgment> judgments = new ArrayList<>();
    private final List<int[]> staff = new ArrayList<>();
    private final List<Long> loads = new ArrayList<>();
    private final List<Entry> memory = new ArrayList<>();
    private final List<Letter> letters = new ArrayList<>();

    // ---- what is asked of arguments

    private static void bounds(boolean holds) {
        if (!holds) {
            throw new IndexOutOfBoundsException();
        }
    }

    private static void argument(boolean holds) {
        if (!holds) {
            throw new IllegalArgumentException();
        }
    }

    private static void supported(boolean holds) {
        if (!holds) {
            throw new UnsupportedOperationException();
        }
    }

    private static void state(boolean holds) {
        if (!holds) {
            throw new IllegalStateException();
        }
    }

    private static void element(boolean holds) {
        if (!holds) {
            throw new NoSuchElementException();
        }
    }

    private static boolean in(int number, int least, int most) {
        return least <= number && number <= most;
    }

    private void isTongue(int t) {
        bounds(in(t, 0, tongues - 1));
    }

    private Act theAct(int a) {
        bounds(in(a, 0, acts.size() - 1));
        return acts.get(a);
    }

    private String theUnit(int a, int u) {
        bounds(in(u, 0, theAct(a).levels.size() - 1));
        return a + "/" + u;
    }

    private List<String> take() {
        List<String> typed = List.copyOf(buffer);
        buffer = new ArrayList<>();
        return typed;
    }

    // ---- tongues, concepts, the buffer

    public int tongue() {
        state(tongues < 5);
        return tongues++;
    }

    public int concept() {
        state(concepts < 16);
        return concepts++;
    }

    private String form(int c, int t, int f) {
        bounds(in(c, 0, concepts - 1));
        isTongue(t);
        argument(in(f, 0, 5));
        return c + ":" + t + ":" + f;
    }

    public boolean allow(int c, int t, int f, boolean is) {
        String form = form(c, t, f);
        boolean was = allowed.contains(form);
        if (is) {
            allowed.add(form);
        } else {
            allowed.remove(form);
        }
        return was;
    }

    public int alias(int c, int t, int f, int other) {
        String form = form(c, t, f);
        argument(in(other, 0, 5));
        Integer before = counts.put(form, other);
        return before == null ? f : before;
    }

    public int mean(int c, int t, int situations) {
        String place = form(c, t, 0);
        argument(in(situations, 0, 4095));
        Integer before = meanings.put(place, situations);
        return before == null ? 4095 : before;
    }

    public int type(char kind, int value) {
        Map<Character, Integer> most = Map.of('w', 99, 'n', 9999, 'r', 11, 'm', 1);
        if (kind == 't') {
            argument(value >= 0 && value / 10 < concepts && value % 10 < 6);
        } else if (kind != 'x') {
            argument(most.containsKey(kind) && in(value, 0, most.get(kind)));
        }
        state(buffer.size() < 10);
        buffer.add("" + kind + (kind == 'x' ? 0 : value));
        return buffer.size();
    }

    public int wipe() {
        return take().size();
    }

    public int pass(int days) {
        argument(in(days, 1, 365));
        state(day + days <= 9999);
        day += days;
        return day;
    }

    // ---- drafting

    public int act(int purpose, int priority) {
        argument(in(purpose, 0, 4095) && in(priority, 0, 9));
        state(acts.size() < 5);
        Act act = new Act();
        act.purpose = purpose;
        act.priority = priority;
        acts.add(act);
        return acts.size() - 1;
    }

    public int unit(int a, int above, int defined) {
        Act act = theAct(a);
        argument(in(above, -1, act.levels.size() - 1) && in(defined, -1, concepts - 1));
        int level = above == -1 ? 1 : act.levels.get(above) + 1;
        argument(level <= 3);
        supported(!act.frozen);
        state(act.levels.size() < 12);
        act.levels.add(level);
        act.defined.add(defined);
        return act.levels.size() - 1;
    }

    public int setSource(int a, int t) {
        Act act = theAct(a);
        isTongue(t);
        supported(!act.frozen);
        int before = act.source;
        act.source = t;
        for (int u = 0; u < act.levels.size(); u++) {
            if (drafts.containsKey(a + "/" + u + "/" + t)) {
                fresh.add(a + "/" + u + "/" + t);
            }
        }
        return before;
    }

    public int write(int a, int u, int t) {
        String unit = theUnit(a, u);
        isTongue(t);
        Act act = acts.get(a);
        supported(!act.frozen);
        drafts.put(unit + "/" + t, take());
        if (t == act.source) {
            for (int other = 0; other < 5; other++) {
                fresh.remove(unit + "/" + other);
            }
            if (asks.remove(unit) != null) {
                act.changed++;
            }
        }
        fresh.remove(unit + "/" + t);
        if (drafts.containsKey(unit + "/" + act.source)) {
            fresh.add(unit + "/" + t);
        }
        return stale(a);
    }

    public int stale(int a) {
        Act act = theAct(a);
        int stale = 0;
        for (int u = 0; u < act.levels.size() && !act.frozen; u++) {
            for (int t = 0; t < tongues; t++) {
                stale += fresh.contains(a + "/" + u + "/" + t) ? 0 : 1;
            }
        }
        return stale;
    }

    public int ask(int a, int u, int t) {
        String unit = theUnit(a, u);
        isTongue(t);
        supported(!acts.get(a).frozen && acts.get(a).source != t);
        supported(drafts.containsKey(unit + "/" + acts.get(a).source));
        asks.merge(unit, 1, Integer::sum);
        return asks.entrySet().stream().filter(e -> e.getKey().startsWith(a + "/"))
            .mapToInt(Map.Entry::getValue).sum();
    }

    public int changed(int a) {
        return theAct(a).changed;
    }

    private void version(String unit, int t, List<String> text) {
        versions.add(new Version(unit + "/" + t, day, text));
    }

    public int freeze(int a) {
        Act act = theAct(a);
        supported(!act.frozen && !act.levels.isEmpty() && tongues > 0 && stale(a) == 0);
        state(versions.size() + act.levels.size() * tongues <= 400);
        act.frozen = true;
        for (int u = 0; u < act.levels.size(); u++) {
            for (int t = 0; t < tongues; t++) {
                act.force.put(t, day);
                version(a + "/" + u, t, drafts.get(a + "/" + u + "/" + t));
            }
        }
        return versions.size();
    }

    // ---- versions

    private List<String> on(String place, int asked) {
        List<String> found = null;
        for (Version version : versions) {
            if (version.place.equals(place) && version.day <= asked) {
                found = version.text;
            }
        }
        return found;
    }

    /** The text now, or null. */
    private List<String> now(int a, int u, int t) {
        String place = a + "/" + u + "/" + t;
        return acts.get(a).frozen ? on(place, day) : drafts.get(place);
    }

    private List<String> some(int a, int u, int t) {
        List<String> text = now(a, u, t);
        element(text != null);
        return text;
    }

    public int tokens(int a, int u, int t, int asked) {
        String unit = theUnit(a, u);
        isTongue(t);
        List<String> text = on(unit + "/" + t, asked);
        element(text != null);
        return text.size();
    }

    public int tokenAt(int a, int u, int t, int asked, int index, boolean isValue) {
        element(in(index, 0, tokens(a, u, t, asked) - 1));
        String token = on(a + "/" + u + "/" + t, asked).get(index);
        return isValue ? value(token) : token.charAt(0);
    }

    public int versions(int a, int u, int t) {
        String unit = theUnit(a, u);
        isTongue(t);
        return (int) versions.stream().filter(v -> v.place.equals(unit + "/" + t)).count();
    }

    public boolean applies(int a, int t, int asked) {
        theAct(a);
        isTongue(t);
        return acts.get(a).force.getOrDefault(t, Integer.MAX_VALUE) <= asked
            && acts.get(a).force.containsKey(t);
    }

    // ---- checks and divergences

    private static int value(String token) {
        return Integer.parseInt(token.substring(1));
    }

    private static List<Integer> values(List<String> text, char kind) {
        return text.stream().filter(token -> token.charAt(0) == kind).map(Model::value)
            .collect(Collectors.toList());
    }

    private static List<Integer> sorted(List<Integer> values) {
        return values.stream().sorted().collect(Collectors.toList());
    }

    private static List<List<Integer>> kernel(List<String> text) {
        List<Integer> behind = new ArrayList<>();
        for (int i = 0; i < text.size(); i++) {
            if (text.get(i).charAt(0) == 'x') {
                List<Integer> terms = values(text.subList(i, text.size()), 't');
                behind.add(terms.isEmpty() ? -1 : terms.get(0) / 10);
            }
        }
        List<Integer> used = values(text, 't').stream().map(v -> v / 10).collect(Collectors.toList());
        return List.of(sorted(values(text, 'n')), sorted(values(text, 'r')), sorted(used), values(text, 'm'),
            List.of(behind.size()), behind);
    }

    private static char unlike(List<List<Integer>> one, List<List<Integer>> other) {
        for (int i = 0; i < 6; i++) {
            if (!one.get(i).equals(other.get(i))) {
                return "nrtmxs".charAt(i);
            }
        }
        return '-';
    }

    public char difference(int a, int u, int one, int other) {
        theUnit(a, u);
        isTongue(one);
        isTongue(other);
        return unlike(kernel(some(a, u, one)), kernel(some(a, u, other)));
    }

    public int forbidden(int a, int t) {
        theAct(a);
        isTongue(t);
        int often = 0;
        for (int u = 0; u < acts.get(a).levels.size(); u++) {
            for (int term : now(a, u, t) == null ? List.<Integer>of() : values(now(a, u, t), 't')) {
                int c = term / 10;
                int as = counts.getOrDefault(c + ":" + t + ":" + term % 10, term % 10);
                often += allowed.contains(c + ":" + t + ":" + as) ? 0 : 1;
            }
        }
        return often;
    }

    public int undefined(int a) {
        Act act = theAct(a);
        Set<Integer> used = new HashSet<>();
        for (int u = 0; u < act.levels.size(); u++) {
            for (int t = 0; t < tongues; t++) {
                if (now(a, u, t) != null) {
                    values(now(a, u, t), 't').forEach(v -> used.add(v / 10));
                }
            }
        }
        used.removeAll(act.defined);
        return used.size();
    }

    public int dangling(int a, int t) {
        Act act = theAct(a);
        isTongue(t);
        int often = 0;
        for (int u = 0; u < act.levels.size(); u++) {
            for (int r : now(a, u, t) == null ? List.<Integer>of() : values(now(a, u, t), 'r')) {
                boolean leads = r < act.levels.size() && now(a, r, t) != null && !now(a, r, t).isEmpty();
                often += leads ? 0 : 1;
            }
        }
        return often;
    }

    /** The kernel of a unit in force, or null. */
    private List<List<Integer>> common(int a, int u) {
        Map<List<List<Integer>>, Integer> often = new HashMap<>();
        for (int t : acts.get(a).force.keySet()) {
            often.merge(kernel(now(a, u, t)), 1, Integer::sum);
        }
        return often.keySet().stream().filter(k -> often.get(k) * 2 > acts.get(a).force.size())
            .findFirst().orElse(null);
    }

    private char classified(int a, int u, int t) {
        List<List<Integer>> common = common(a, u);
        if (common == null) {
            return 's';
        }
        List<List<Integer>> own = kernel(now(a, u, t));
        if (own.equals(common)) {
            return '-';
        }
        boolean isFirst = unlike(own, common) == 'n' || unlike(own, common) == 'r';
        return isFirst && own.subList(2, 6).equals(common.subList(2, 6)) ? 'm' : 'd';
    }

    public char divergence(int a, int u, int t) {
        theUnit(a, u);
        isTongue(t);
        supported(acts.get(a).force.containsKey(t));
        return classified(a, u, t);
    }

    public int diverging(int a) {
        int often = 0;
        for (int u = 0; u < theAct(a).levels.size(); u++) {
            for (int t : acts.get(a).force.keySet()) {
                often += classified(a, u, t) == '-' ? 0 : 1;
            }
        }
        return often;
    }

    public int corrigendum(int a, int u, int t) {
        String unit = theUnit(a, u);
        isTongue(t);
        supported(acts.get(a).force.containsKey(t) && classified(a, u, t) == 'm');
        supported(kernel(buffer).equals(common(a, u)));
        state(versions.size() < 400);
        version(unit, t, take());
        return ++corrigenda;
    }

    // ---- amendments

    public int setDeadline(int a, int last) {
        Act act = theAct(a);
        argument(in(last, 0, 9999));
        int before = act.deadline;
        act.deadline = last;
        return before;
    }

    private int amend(int a, String unit, int t, boolean isCompromise) {
        state(amendments.size() < 12);
        Amendment amendment = new Amendment();
        amendment.unit = unit;
        amendment.act = a;
        amendment.tongue = t;
        amendment.compromise = isCompromise;
        amendment.texts.put(t, take());
        amendments.add(amendment);
        return amendments.size() - 1;
    }

    public int move(int a, int u, int t) {
        String unit = theUnit(a, u);
        isTongue(t);
        supported(acts.get(a).force.containsKey(t) && day <= acts.get(a).deadline);
        return amend(a, unit, t, false);
    }

    private Amendment theAmendment(int i) {
        bounds(in(i, 0, amendments.size() - 1));
        return amendments.get(i);
    }

    public int compromise(int one, int other) {
        Amendment first = theAmendment(one);
        Amendment second = theAmendment(other);
        supported(first.state == 'o' && second.state == 'o' && one != other && first.unit.equals(second.unit));
        return amend(first.act, first.unit, first.tongue, true);
    }

    private int lacks(Amendment amendment) {
        Set<Integer> lacking = new HashSet<>(acts.get(amendment.act).force.keySet());
        lacking.removeAll(amendment.texts.keySet());
        return lacking.size();
    }

    public int supply(int i, int t) {
        Amendment amendment = theAmendment(i);
        isTongue(t);
        supported(amendment.state == 'o' && t != amendment.tongue);
        supported(acts.get(amendment.act).force.containsKey(t));
        amendment.texts.put(t, take());
        return lacks(amendment);
    }

    private static int far(List<String> one, List<String> other) {
        int[][] least = new int[one.size() + 1][other.size() + 1];
        for (int i = 0; i <= one.size(); i++) {
            for (int j = 0; j <= other.size(); j++) {
                least[i][j] = i + j;
                if (i > 0 && j > 0) {
                    int change = one.get(i - 1).equals(other.get(j - 1)) ? 0 : 1;
                    int left = Math.min(least[i - 1][j], least[i][j - 1]) + 1;
                    least[i][j] = Math.min(left, least[i - 1][j - 1] + change);
                }
            }
        }
        return least[one.size()][other.size()];
    }

    public int distance(int i) {
        Amendment amendment = theAmendment(i);
        int t = amendment.tongue;
        return far(amendment.texts.get(t), on(amendment.unit + "/" + t, day));
    }

    private int first(String unit) {
        Comparator<Integer> order = Comparator.comparing((Integer i) -> !amendments.get(i).compromise)
            .thenComparing(i -> amendments.get(i).compromise ? 0 : -distance(i)).thenComparing(i -> i);
        return IntStream.range(0, amendments.size()).boxed()
            .filter(i -> amendments.get(i).unit.equals(unit) && amendments.get(i).state == 'o')
            .filter(i -> lacks(amendments.get(i)) == 0).min(order).orElse(-1);
    }

    public int next(int a, int u) {
        int first = first(theUnit(a, u));
        element(first >= 0);
        return first;
    }

    public boolean vote(int i, int ayes, int noes) {
        Amendment amendment = theAmendment(i);
        argument(in(ayes, 0, 999) && in(noes, 0, 999));
        supported(first(amendment.unit) == i);
        if (ayes <= noes) {
            amendment.state = 'l';
            return false;
        }
        List<Integer> force = new ArrayList<>(acts.get(amendment.act).force.keySet());
        state(versions.size() + force.size() <= 400);
        Collections.sort(force);
        for (int t : force) {
            version(amendment.unit, t, amendment.texts.get(t));
        }
        for (Amendment other : amendments) {
            if (other.unit.equals(amendment.unit) && other.state == 'o') {
                other.state = other == amendment ? 'a' : 'f';
            }
        }
        return true;
    }

    public char state(int i) {
        return theAmendment(i).state;
    }

    // ---- courts

    private Set<Integer> situations(List<String> text, int t) {
        Set<Integer> left = IntStream.range(0, 12).boxed().collect(Collectors.toSet());
        for (int i = 0; i < text.size(); i++) {
            if (text.get(i).charAt(0) == 't') {
                int meaning = meanings.getOrDefault(value(text.get(i)) / 10 + ":" + t + ":0", 4095);
                boolean isNegated = i > 0 && text.get(i - 1).charAt(0) == 'x';
                left.removeIf(s -> (meaning >> s) % 2 == (isNegated ? 1 : 0));
            }
        }
        return left;
    }

    private static int bits(Set<Integer> situations) {
        return situations.stream().mapToInt(s -> 1 << s).sum();
    }

    public int meaning(int a, int u, int t) {
        theUnit(a, u);
        isTongue(t);
        return bits(situations(some(a, u, t), t));
    }

    private int find(int a, int u, char method) {
        List<Set<Integer>> all = new ArrayList<>();
        for (int t = 0; t < tongues; t++) {
            if (acts.get(a).force.containsKey(t)) {
                all.add(situations(now(a, u, t), t));
            }
        }
        if (method == 'c' || method == 'm') {
            return bits(IntStream.range(0, 12).boxed().filter(s -> {
                long often = all.stream().filter(m -> m.contains(s)).count();
                return method == 'c' ? often == all.size() : often > all.size() - often;
            }).collect(Collectors.toSet()));
        }
        int purpose = acts.get(a).purpose;
        return all.stream().map(Model::bits).min(Comparator.comparing((Integer m) ->
            method == 'b' ? Integer.bitCount(m) : Integer.bitCount(m ^ purpose))).orElse(0);
    }

    public int judge(int a, int u, char method, int court) {
        String unit = theUnit(a, u);
        argument("cmpb".indexOf(method) >= 0 && in(court, 0, 9));
        supported(acts.get(a).frozen);
        state(judgments.size() < 30);
        judgments.add(new Judgment(unit, find(a, u, method)));
        return judgments.size() - 1;
    }

    public int judged(int i) {
        bounds(in(i, 0, judgments.size() - 1));
        return judgments.get(i).found;
    }

    public int replay(int i) {
        return judged(i);
    }

    public int conflicts() {
        int pairs = 0;
        for (Judgment one : judgments) {
            for (Judgment other : judgments) {
                pairs += one.unit.equals(other.unit) && one.found < other.found ? 1 : 0;
            }
        }
        return pairs;
    }

    // ---- tongues that join, staff, memories

    private List<Integer> behind(int t) {
        isTongue(t);
        return IntStream.range(0, acts.size()).boxed()
            .filter(a -> acts.get(a).frozen && !acts.get(a).force.containsKey(t))
            .sorted(Comparator.comparing((Integer a) -> -acts.get(a).priority)).collect(Collectors.toList());
    }

    public int backlog(int t) {
        return behind(t).size();
    }

    public int backlogAt(int t, int index) {
        element(in(index, 0, behind(t).size() - 1));
        return behind(t).get(index);
    }

    public int translate(int a, int u, int t) {
        String unit = theUnit(a, u);
        supported(behind(t).contains(a));
        translated.put(unit + "/" + t, take());
        return (int) IntStream.range(0, acts.get(a).levels.size())
            .filter(i -> !translated.containsKey(a + "/" + i + "/" + t)).count();
    }

    public int publish(int a, int t) {
        Act act = theAct(a);
        supported(behind(t).contains(a));
        for (int u = 0; u < act.levels.size(); u++) {
            List<String> text = translated.get(a + "/" + u + "/" + t);
            supported(text != null);
            supported(common(a, u) == null || common(a, u).equals(kernel(text)));
        }
        state(versions.size() + act.levels.size() <= 400);
        for (int u = 0; u < act.levels.size(); u++) {
            version(a + "/" + u, t, translated.get(a + "/" + u + "/" + t));
        }
        act.force.put(t, day);
        return versions.size();
    }

    public int translator(int known, int speed) {
        argument(known >= 0 && known < Math.pow(2, tongues) && in(speed, 1, 99));
        state(staff.size() < 8);
        staff.add(new int[] {known, speed});
        loads.add(0L);
        return staff.size() - 1;
    }

    private int need(int i, int tokens) {
        return (int) Math.ceil((double) tokens / staff.get(i)[1]);
    }

    private boolean knows(int i, int one, int other) {
        return (staff.get(i)[0] >> one & staff.get(i)[0] >> other & 1) == 1;
    }

    private Way way(int a, int from, int to) {
        Act act = theAct(a);
        isTongue(from);
        isTongue(to);
        argument(from != to);
        int sum = 0;
        for (int u = 0; u < act.levels.size(); u++) {
            sum += some(a, u, from).size();
        }
        List<Way> ways = new ArrayList<>();
        for (int i = 0; i < staff.size(); i++) {
            if (knows(i, from, to)) {
                ways.add(new Way(false, need(i, sum), loads.get(i), 0, i, -1, sum));
            }
            for (int j = 0; j < staff.size(); j++) {
                for (int p = 0; p < tongues; p++) {
                    if (p != from && p != to && knows(i, from, p) && knows(j, p, to)) {
                        ways.add(new Way(true, need(i, sum) + need(j, sum), loads.get(i) + loads.get(j), p, i, j,
                            sum));
                    }
                }
            }
        }
        element(!ways.isEmpty());
        return ways.stream().min(Comparator.comparing(Way::isPivot).thenComparing(Way::days)
            .thenComparing(Way::sum).thenComparing(Way::pivot).thenComparing(Way::first)
            .thenComparing(Way::second)).get();
    }

    public int days(int a, int from, int to) {
        return way(a, from, to).days;
    }

    public int assign(int a, int from, int to) {
        Way way = way(a, from, to);
        loads.set(way.first, loads.get(way.first) + way.tokens);
        if (way.isPivot) {
            loads.set(way.second, loads.get(way.second) + way.tokens);
        }
        return way.first;
    }

    public long load(int i) {
        bounds(in(i, 0, staff.size() - 1));
        return loads.get(i);
    }

    public int memorize(int a, int u, int from, int to, int i) {
        String unit = theUnit(a, u);
        isTongue(from);
        isTongue(to);
        load(i);
        argument(from != to);
        Entry entry = new Entry(unit, from + ">" + to, i, some(a, u, from), some(a, u, to));
        state(memory.size() < 20);
        memory.add(entry);
        return memory.size();
    }

    public int propose(int a, int u, int from, int to) {
        String unit = theUnit(a, u);
        isTongue(from);
        isTongue(to);
        argument(from != to);
        List<String> source = some(a, u, from);
        List<Entry> fitting = memory.stream().filter(e -> e.pair.equals(from + ">" + to))
            .collect(Collectors.toList());
        element(!fitting.isEmpty());
        Collections.reverse(fitting);
        Entry best = fitting.stream().min(Comparator.comparing((Entry e) -> far(e.source, source))
            .thenComparing(e -> !e.unit.equals(unit))).get();
        buffer = new ArrayList<>(best.target);
        return far(best.source, source);
    }

    public int poison(int i) {
        load(i);
        int before = memory.size();
        memory.removeIf(e -> e.translator == i);
        return before - memory.size();
    }

    // ---- letters and figures

    public int letter(int t) {
        isTongue(t);
        state(letters.size() < 20);
        letters.add(new Letter(t, day));
        return letters.size();
    }

    public int answer(int i) {
        load(i);
        Letter first = letters.stream().filter(l -> knows(i, l.tongue, l.tongue)).findFirst().orElse(null);
        element(first != null);
        letters.removeIf(l -> l == first);
        return day - first.day;
    }

    public int overdue() {
        return (int) letters.stream().filter(l -> l.day + 15 < day).count();
    }

    public int day() {
        return day;
    }

    public long checksum() {
        long sum = 0;
        for (Version version : versions) {
            sum = 31 * sum + version.day;
            for (String token : version.text) {
                sum = 31 * sum + token.charAt(0) + 7 * value(token);
            }
        }
        return sum;
    }

    public float frozenShare() {
        if (acts.isEmpty()) {
            throw new ArithmeticException();
        }
        return (float) acts.stream().filter(a -> a.frozen).count() / acts.size();
    }

    public double meanTokens() {
        element(!versions.isEmpty());
        return (double) versions.stream().mapToInt(v -> v.text.size()).sum() / versions.size();
    }

    public boolean isSound() {
        return true;
    }
}
