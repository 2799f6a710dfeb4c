import java.util.ArrayList;
import java.util.Arrays;
import java.util.NoSuchElementException;

/** One law in many tongues, all of them equal. ../shared/DOC.md says what each call does. */
public final class Equaltexts {
    private static final int MOST_TONGUES = 5;
    private static final int MOST_CONCEPTS = 16;
    private static final int FORMS = 6;
    private static final int SITUATIONS = 12;
    private static final int ALL_SITUATIONS = 4095;
    private static final int MOST_TOKENS = 10;
    private static final int MOST_ACTS = 5;
    private static final int MOST_PRIORITY = 9;
    private static final int MOST_UNITS = 12;
    private static final int MOST_LEVELS = 3;
    private static final int MOST_VERSIONS = 400;
    private static final int MOST_AMENDMENTS = 12;
    private static final int MOST_VOTES = 999;
    private static final int MOST_JUDGMENTS = 30;
    private static final int MOST_COURT = 9;
    private static final int MOST_TRANSLATORS = 8;
    private static final int MOST_SPEED = 99;
    private static final int MOST_ENTRIES = 20;
    private static final int MOST_LETTERS = 20;
    private static final int MOST_WAIT = 15;
    private static final int LAST_DAY = 9999;
    private static final int MOST_PASS = 365;
    private static final int NONE = -1;

    private final ArrayList<Tongue> tongues = new ArrayList<Tongue>();
    private final ArrayList<Act> acts = new ArrayList<Act>();
    private final ArrayList<Version> versions = new ArrayList<Version>();
    private final ArrayList<Amendment> amendments = new ArrayList<Amendment>();
    private final ArrayList<Judgment> judgments = new ArrayList<Judgment>();
    private final ArrayList<Translator> translators = new ArrayList<Translator>();
    private final ArrayList<Entry> memory = new ArrayList<Entry>();
    private final ArrayList<Letter> letters = new ArrayList<Letter>();
    private final Text empty = new Text(new int[0]);
    /** Scratch of the distances, kept so that a call makes no row of its own. */
    private final int[] row = new int[MOST_TOKENS + 1];
    private Text buffer = empty;
    private int concepts;
    private int corrigenda;
    private int today;

    public Equaltexts() {
    }

    // ---- tongues, concepts, the buffer

    public int tongue() throws IllegalStateException {
        if (tongues.size() >= MOST_TONGUES) {
            throw new IllegalStateException("there are 5 tongues");
        }
        tongues.add(new Tongue());
        return tongues.size() - 1;
    }

    public int concept() throws IllegalStateException {
        if (concepts >= MOST_CONCEPTS) {
            throw new IllegalStateException("there are 16 concepts");
        }
        concepts++;
        return concepts - 1;
    }

    public boolean allow(int concept, int tongue, int form, boolean is)
            throws IndexOutOfBoundsException, IllegalArgumentException {
        needConcept(concept);
        Tongue told = tongueAt(tongue);
        needRange(form, 0, FORMS - 1);
        boolean was = told.isAllowed(concept, form);
        told.setAllowed(concept, form, is);
        return was;
    }

    public int alias(int concept, int tongue, int form, int other)
            throws IndexOutOfBoundsException, IllegalArgumentException {
        needConcept(concept);
        Tongue told = tongueAt(tongue);
        needRange(form, 0, FORMS - 1);
        needRange(other, 0, FORMS - 1);
        int before = told.countsAs(concept, form);
        told.setCountsAs(concept, form, other);
        return before;
    }

    public int mean(int concept, int tongue, int situations)
            throws IndexOutOfBoundsException, IllegalArgumentException {
        needConcept(concept);
        Tongue told = tongueAt(tongue);
        needRange(situations, 0, ALL_SITUATIONS);
        int before = told.meant(concept);
        told.setMeant(concept, situations);
        return before;
    }

    public int type(char kind, int value) throws IllegalArgumentException, IllegalStateException {
        if (!isToken(kind, value)) {
            throw new IllegalArgumentException("no such token");
        }
        if (buffer.size() >= MOST_TOKENS) {
            throw new IllegalStateException("the buffer has 10 tokens");
        }
        buffer = buffer.with(kind, kind == 'x' ? 0 : value);
        return buffer.size();
    }

    public int wipe() {
        return takeBuffer().size();
    }

    public int pass(int days) throws IllegalArgumentException, IllegalStateException {
        needRange(days, 1, MOST_PASS);
        if (today + days > LAST_DAY) {
            throw new IllegalStateException("beyond the last day");
        }
        today += days;
        return today;
    }

    private boolean isToken(char kind, int value) {
        if (kind == 'x') {
            return true;
        }
        if (value < 0) {
            return false;
        }
        if (kind == 't') {
            return Text.conceptOf(value) < concepts && Text.formOf(value) < FORMS;
        }
        return kind == 'w' && value <= 99
            || kind == 'n' && value <= 9999
            || kind == 'r' && value < MOST_UNITS
            || kind == 'm' && value <= 1;
    }

    private Text takeBuffer() {
        Text typed = buffer;
        buffer = empty;
        return typed;
    }

    // ---- drafting

    public int act(int purpose, int priority) throws IllegalArgumentException, IllegalStateException {
        needRange(purpose, 0, ALL_SITUATIONS);
        needRange(priority, 0, MOST_PRIORITY);
        if (acts.size() >= MOST_ACTS) {
            throw new IllegalStateException("there are 5 acts");
        }
        acts.add(new Act(purpose, priority));
        return acts.size() - 1;
    }

    public int unit(int act, int above, int defined)
            throws IndexOutOfBoundsException, IllegalArgumentException,
                   UnsupportedOperationException, IllegalStateException {
        Act drafted = actAt(act);
        needRange(above, NONE, drafted.units.size() - 1);
        needRange(defined, NONE, concepts - 1);
        int level = drafted.levelOf(above) + 1;
        needRange(level, 1, MOST_LEVELS);
        needDrafted(drafted);
        if (drafted.units.size() >= MOST_UNITS) {
            throw new IllegalStateException("the act has 12 units");
        }
        drafted.units.add(new Unit(drafted, level, defined));
        return drafted.units.size() - 1;
    }

    public int setSource(int act, int tongue)
            throws IndexOutOfBoundsException, UnsupportedOperationException {
        Act drafted = actAt(act);
        tongueAt(tongue);
        needDrafted(drafted);
        int before = drafted.source;
        drafted.source = tongue;
        for (int i = 0; i < drafted.units.size(); i++) {
            drafted.units.get(i).setFresh(tongue, true);
        }
        return before;
    }

    public int write(int act, int unit, int tongue)
            throws IndexOutOfBoundsException, UnsupportedOperationException {
        Unit drafted = unitAt(act, unit);
        tongueAt(tongue);
        needDrafted(drafted.act);
        drafted.draft(tongue, takeBuffer());
        return drafted.act.staleTexts(tongues.size());
    }

    public int stale(int act) throws IndexOutOfBoundsException {
        return actAt(act).staleTexts(tongues.size());
    }

    public int ask(int act, int unit, int tongue)
            throws IndexOutOfBoundsException, UnsupportedOperationException {
        Unit asked = unitAt(act, unit);
        tongueAt(tongue);
        needDrafted(asked.act);
        if (tongue == asked.act.source || asked.stored(asked.act.source) == null) {
            throw new UnsupportedOperationException("nothing to ask about the source");
        }
        asked.asks++;
        return asked.act.openAsks();
    }

    public int changed(int act) throws IndexOutOfBoundsException {
        return actAt(act).changes;
    }

    public int freeze(int act)
            throws IndexOutOfBoundsException, UnsupportedOperationException, IllegalStateException {
        Act ready = actAt(act);
        needDrafted(ready);
        if (ready.units.isEmpty() || tongues.isEmpty() || ready.staleTexts(tongues.size()) > 0) {
            throw new UnsupportedOperationException("the act is not ready");
        }
        needRoom(ready.units.size() * tongues.size());
        ready.frozen = true;
        for (int t = 0; t < tongues.size(); t++) {
            ready.comeIntoForce(t, today);
        }
        for (int i = 0; i < ready.units.size(); i++) {
            for (int t = 0; t < tongues.size(); t++) {
                enact(ready.units.get(i), t, ready.units.get(i).stored(t));
            }
        }
        return versions.size();
    }

    // ---- versions

    public int tokens(int act, int unit, int tongue, int day)
            throws IndexOutOfBoundsException, NoSuchElementException {
        Unit asked = unitAt(act, unit);
        tongueAt(tongue);
        return textOn(asked, tongue, day).size();
    }

    public int tokenAt(int act, int unit, int tongue, int day, int index, boolean isValue)
            throws IndexOutOfBoundsException, NoSuchElementException {
        Unit asked = unitAt(act, unit);
        tongueAt(tongue);
        Text text = textOn(asked, tongue, day);
        if (index < 0 || index >= text.size()) {
            throw new NoSuchElementException("no such token");
        }
        return isValue ? text.valueAt(index) : text.kindAt(index);
    }

    public int versions(int act, int unit, int tongue) throws IndexOutOfBoundsException {
        Unit asked = unitAt(act, unit);
        tongueAt(tongue);
        int often = 0;
        for (int i = 0; i < versions.size(); i++) {
            if (versions.get(i).isOf(asked, tongue)) {
                often++;
            }
        }
        return often;
    }

    public boolean applies(int act, int tongue, int day) throws IndexOutOfBoundsException {
        Act asked = actAt(act);
        tongueAt(tongue);
        return asked.isInForce(tongue) && asked.sinceIn(tongue) <= day;
    }

    /** The last version that came by a day; versions stand in the order of their days. */
    private Text textOn(Unit unit, int tongue, int day) {
        for (int i = versions.size() - 1; i >= 0; i--) {
            Version version = versions.get(i);
            if (version.isOf(unit, tongue) && version.day <= day) {
                return version.text;
            }
        }
        throw new NoSuchElementException("no version by that day");
    }

    private void enact(Unit unit, int tongue, Text text) {
        if (text != null) {
            unit.store(tongue, text);
            versions.add(new Version(unit, tongue, today, text));
        }
    }

    // ---- checks and divergences

    public char difference(int act, int unit, int one, int other)
            throws IndexOutOfBoundsException, NoSuchElementException {
        Unit asked = unitAt(act, unit);
        tongueAt(one);
        tongueAt(other);
        return textNow(asked, one).firstUnlike(textNow(asked, other), Text.NUMBERS);
    }

    public int forbidden(int act, int tongue) throws IndexOutOfBoundsException {
        Act asked = actAt(act);
        Tongue judging = tongueAt(tongue);
        int often = 0;
        for (int i = 0; i < asked.units.size(); i++) {
            often += forbiddenTerms(asked.units.get(i).now(tongue), judging);
        }
        return often;
    }

    public int undefined(int act) throws IndexOutOfBoundsException {
        Act asked = actAt(act);
        int used = 0;
        int defined = 0;
        for (int i = 0; i < asked.units.size(); i++) {
            Unit unit = asked.units.get(i);
            used |= unit.usedConcepts(tongues.size());
            defined |= unit.defined == NONE ? 0 : 1 << unit.defined;
        }
        return Integer.bitCount(used & ~defined);
    }

    public int dangling(int act, int tongue) throws IndexOutOfBoundsException {
        Act asked = actAt(act);
        tongueAt(tongue);
        int often = 0;
        for (int i = 0; i < asked.units.size(); i++) {
            often += danglingReferences(asked.units.get(i).now(tongue), asked, tongue);
        }
        return often;
    }

    public char divergence(int act, int unit, int tongue)
            throws IndexOutOfBoundsException, UnsupportedOperationException {
        Unit asked = unitAt(act, unit);
        tongueAt(tongue);
        if (!asked.act.isInForce(tongue)) {
            throw new UnsupportedOperationException("not in force in this tongue");
        }
        return asked.classify(tongue, asked.kernelText());
    }

    public int diverging(int act) throws IndexOutOfBoundsException {
        Act asked = actAt(act);
        int often = 0;
        for (int i = 0; i < asked.units.size(); i++) {
            often += asked.units.get(i).divergingTexts();
        }
        return often;
    }

    public int corrigendum(int act, int unit, int tongue)
            throws IndexOutOfBoundsException, UnsupportedOperationException, IllegalStateException {
        Unit wrong = unitAt(act, unit);
        tongueAt(tongue);
        Text kernel = wrong.kernelText();
        if (kernel == null || wrong.classify(tongue, kernel) != 'm'
                || buffer.firstUnlike(kernel, Text.NUMBERS) != '-') {
            throw new UnsupportedOperationException("nothing to correct, or not so");
        }
        needRoom(1);
        enact(wrong, tongue, takeBuffer());
        corrigenda++;
        return corrigenda;
    }

    private static int forbiddenTerms(Text text, Tongue tongue) {
        int often = 0;
        for (int i = 0; text != null && i < text.size(); i++) {
            int concept = Text.conceptOf(text.valueAt(i));
            int form = Text.formOf(text.valueAt(i));
            if (text.kindAt(i) == 't' && !tongue.isAllowed(concept, tongue.countsAs(concept, form))) {
                often++;
            }
        }
        return often;
    }

    private static int danglingReferences(Text text, Act act, int tongue) {
        int often = 0;
        for (int i = 0; text != null && i < text.size(); i++) {
            if (text.kindAt(i) == 'r' && !act.hasTokens(text.valueAt(i), tongue)) {
                often++;
            }
        }
        return often;
    }

    // ---- amendments

    public int setDeadline(int act, int day) throws IndexOutOfBoundsException, IllegalArgumentException {
        Act told = actAt(act);
        needRange(day, 0, LAST_DAY);
        int before = told.deadline;
        told.deadline = day;
        return before;
    }

    public int move(int act, int unit, int tongue)
            throws IndexOutOfBoundsException, UnsupportedOperationException, IllegalStateException {
        Unit amended = unitAt(act, unit);
        tongueAt(tongue);
        if (!amended.act.isInForce(tongue) || today > amended.act.deadline) {
            throw new UnsupportedOperationException("not in force, or behind the deadline");
        }
        return addAmendment(amended, tongue, false);
    }

    public int compromise(int one, int other)
            throws IndexOutOfBoundsException, UnsupportedOperationException, IllegalStateException {
        Amendment first = amendmentAt(one);
        Amendment second = amendmentAt(other);
        if (first.state != 'o' || second.state != 'o' || one == other || first.unit != second.unit) {
            throw new UnsupportedOperationException("no two open amendments of one unit");
        }
        return addAmendment(first.unit, first.tongue, true);
    }

    public int supply(int amendment, int tongue)
            throws IndexOutOfBoundsException, UnsupportedOperationException {
        Amendment supplied = amendmentAt(amendment);
        tongueAt(tongue);
        if (supplied.state != 'o' || tongue == supplied.tongue
                || !supplied.unit.act.isInForce(tongue)) {
            throw new UnsupportedOperationException("no text to supply");
        }
        supplied.setText(tongue, takeBuffer());
        return supplied.lacking();
    }

    public int distance(int amendment) throws IndexOutOfBoundsException {
        return distanceOf(amendmentAt(amendment));
    }

    public int next(int act, int unit) throws IndexOutOfBoundsException, NoSuchElementException {
        int first = firstToVote(unitAt(act, unit));
        if (first == NONE) {
            throw new NoSuchElementException("no amendment is ready");
        }
        return first;
    }

    public boolean vote(int amendment, int ayes, int noes)
            throws IndexOutOfBoundsException, IllegalArgumentException,
                   UnsupportedOperationException, IllegalStateException {
        Amendment voted = amendmentAt(amendment);
        needRange(ayes, 0, MOST_VOTES);
        needRange(noes, 0, MOST_VOTES);
        if (firstToVote(voted.unit) != amendment) {
            throw new UnsupportedOperationException("another amendment is next, or none");
        }
        if (ayes <= noes) {
            voted.state = 'l';
            return false;
        }
        needRoom(voted.unit.act.tonguesInForce());
        adopt(voted);
        return true;
    }

    public char state(int amendment) throws IndexOutOfBoundsException {
        return amendmentAt(amendment).state;
    }

    private int addAmendment(Unit unit, int tongue, boolean isCompromise) {
        if (amendments.size() >= MOST_AMENDMENTS) {
            throw new IllegalStateException("there are 12 amendments");
        }
        Amendment moved = new Amendment(unit, tongue, isCompromise);
        moved.setText(tongue, takeBuffer());
        amendments.add(moved);
        return amendments.size() - 1;
    }

    private int distanceOf(Amendment amendment) {
        Text moved = amendment.textIn(amendment.tongue);
        Text now = amendment.unit.now(amendment.tongue);
        return moved == null || now == null ? 0 : moved.farFrom(now, row);
    }

    /** The amendment that is next, or NONE; any compromise goes ahead of all others. */
    private int firstToVote(Unit unit) {
        int first = NONE;
        int farthest = NONE;
        for (int i = 0; i < amendments.size(); i++) {
            Amendment amendment = amendments.get(i);
            if (amendment.unit != unit || amendment.state != 'o' || amendment.lacking() > 0) {
                continue;
            }
            if (amendment.isCompromise) {
                return i;
            }
            int far = distanceOf(amendment);
            if (far > farthest) {
                first = i;
                farthest = far;
            }
        }
        return first;
    }

    private void adopt(Amendment adopted) {
        for (int t = 0; t < tongues.size(); t++) {
            if (adopted.unit.act.isInForce(t)) {
                enact(adopted.unit, t, adopted.textIn(t));
            }
        }
        for (int i = 0; i < amendments.size(); i++) {
            Amendment other = amendments.get(i);
            if (other.unit == adopted.unit && other.state == 'o') {
                other.state = 'f';
            }
        }
        adopted.state = 'a';
    }

    // ---- courts

    public int meaning(int act, int unit, int tongue)
            throws IndexOutOfBoundsException, NoSuchElementException {
        Unit asked = unitAt(act, unit);
        Tongue reading = tongueAt(tongue);
        return textNow(asked, tongue).situations(reading.meanings);
    }

    public int judge(int act, int unit, char method, int court)
            throws IndexOutOfBoundsException, IllegalArgumentException,
                   UnsupportedOperationException, IllegalStateException {
        Unit asked = unitAt(act, unit);
        if (method != 'c' && method != 'm' && method != 'p' && method != 'b') {
            throw new IllegalArgumentException("no such method");
        }
        needRange(court, 0, MOST_COURT);
        if (!asked.act.frozen) {
            throw new UnsupportedOperationException("the act is not frozen");
        }
        if (judgments.size() >= MOST_JUDGMENTS) {
            throw new IllegalStateException("there are 30 judgments");
        }
        Judgment judgment = new Judgment(asked, method);
        for (int t = 0; t < tongues.size(); t++) {
            judgment.hear(t, asked.now(t), tongues.get(t).meanings);
        }
        judgment.found = judgment.finding();
        judgments.add(judgment);
        return judgments.size() - 1;
    }

    public int judged(int judgment) throws IndexOutOfBoundsException {
        return judgmentAt(judgment).found;
    }

    public int replay(int judgment) throws IndexOutOfBoundsException {
        return judgmentAt(judgment).finding();
    }

    public int conflicts() {
        int pairs = 0;
        for (int i = 0; i < judgments.size(); i++) {
            for (int j = 0; j < i; j++) {
                Judgment one = judgments.get(i);
                Judgment other = judgments.get(j);
                if (one.unit == other.unit && one.found != other.found) {
                    pairs++;
                }
            }
        }
        return pairs;
    }

    // ---- tongues that join, staff, memories

    public int backlog(int tongue) throws IndexOutOfBoundsException {
        tongueAt(tongue);
        int often = 0;
        for (int i = 0; i < acts.size(); i++) {
            if (acts.get(i).isBehind(tongue)) {
                often++;
            }
        }
        return often;
    }

    public int backlogAt(int tongue, int index) throws IndexOutOfBoundsException, NoSuchElementException {
        tongueAt(tongue);
        int ahead = 0;
        for (int priority = MOST_PRIORITY; priority >= 0; priority--) {
            for (int i = 0; i < acts.size(); i++) {
                Act act = acts.get(i);
                if (act.priority == priority && act.isBehind(tongue)) {
                    if (ahead == index) {
                        return i;
                    }
                    ahead++;
                }
            }
        }
        throw new NoSuchElementException("no such act in the backlog");
    }

    public int translate(int act, int unit, int tongue)
            throws IndexOutOfBoundsException, UnsupportedOperationException {
        Unit translated = unitAt(act, unit);
        tongueAt(tongue);
        if (!translated.act.isBehind(tongue)) {
            throw new UnsupportedOperationException("drafted, or in force in this tongue");
        }
        translated.store(tongue, takeBuffer());
        return translated.act.unitsWithout(tongue);
    }

    public int publish(int act, int tongue)
            throws IndexOutOfBoundsException, UnsupportedOperationException, IllegalStateException {
        Act ready = actAt(act);
        tongueAt(tongue);
        if (!ready.isBehind(tongue) || !ready.fitsKernels(tongue)) {
            throw new UnsupportedOperationException("the act is not ready in this tongue");
        }
        needRoom(ready.units.size());
        ready.comeIntoForce(tongue, today);
        for (int i = 0; i < ready.units.size(); i++) {
            enact(ready.units.get(i), tongue, ready.units.get(i).stored(tongue));
        }
        return versions.size();
    }

    public int translator(int tongues, int speed) throws IllegalArgumentException, IllegalStateException {
        if (tongues >> this.tongues.size() != 0) {
            throw new IllegalArgumentException("a bit of no tongue");
        }
        needRange(speed, 1, MOST_SPEED);
        if (translators.size() >= MOST_TRANSLATORS) {
            throw new IllegalStateException("there are 8 translators");
        }
        translators.add(new Translator(tongues, speed));
        return translators.size() - 1;
    }

    public int days(int act, int from, int to)
            throws IndexOutOfBoundsException, IllegalArgumentException, NoSuchElementException {
        return wayOf(act, from, to).days;
    }

    public int assign(int act, int from, int to)
            throws IndexOutOfBoundsException, IllegalArgumentException, NoSuchElementException {
        Way way = wayOf(act, from, to);
        translatorAt(way.first).assigned += way.tokens;
        if (way.second != NONE) {
            translatorAt(way.second).assigned += way.tokens;
        }
        return way.first;
    }

    public long load(int translator) throws IndexOutOfBoundsException {
        return translatorAt(translator).assigned;
    }

    public int memorize(int act, int unit, int from, int to, int translator)
            throws IndexOutOfBoundsException, IllegalArgumentException,
                   NoSuchElementException, IllegalStateException {
        Unit asked = unitAt(act, unit);
        translatorAt(translator);
        needTwoTongues(from, to);
        Text source = textNow(asked, from);
        Text target = textNow(asked, to);
        if (memory.size() >= MOST_ENTRIES) {
            throw new IllegalStateException("the memory has 20 entries");
        }
        memory.add(new Entry(asked, from, to, translator, source, target));
        return memory.size();
    }

    public int propose(int act, int unit, int from, int to)
            throws IndexOutOfBoundsException, IllegalArgumentException, NoSuchElementException {
        Unit asked = unitAt(act, unit);
        needTwoTongues(from, to);
        Text source = textNow(asked, from);
        Entry nearest = null;
        int least = 0;
        for (int i = 0; i < memory.size(); i++) {
            Entry entry = memory.get(i);
            if (entry.from == from && entry.to == to) {
                int far = source.farFrom(entry.source, row);
                boolean isAhead = entry.unit == asked || nearest == null || nearest.unit != asked;
                if (nearest == null || far < least || far == least && isAhead) {
                    nearest = entry;
                    least = far;
                }
            }
        }
        if (nearest == null) {
            throw new NoSuchElementException("nothing in the memory");
        }
        buffer = nearest.target;
        return least;
    }

    public int poison(int translator) throws IndexOutOfBoundsException {
        translatorAt(translator);
        int taken = 0;
        for (int i = memory.size() - 1; i >= 0; i--) {
            if (memory.get(i).translator == translator) {
                memory.remove(i);
                taken++;
            }
        }
        return taken;
    }

    private Way wayOf(int act, int from, int to) {
        Act translated = actAt(act);
        needTwoTongues(from, to);
        if (translated.unitsWithoutNow(from) > 0) {
            throw new NoSuchElementException("a unit has no text");
        }
        int tokens = translated.tokensNow(from);
        Way best = directWay(tokens, 1 << from | 1 << to);
        if (best == null) {
            best = pivotWay(tokens, from, to);
        }
        if (best == null) {
            throw new NoSuchElementException("nobody can translate this");
        }
        return best;
    }

    private Way directWay(int tokens, int both) {
        Way best = null;
        for (int i = 0; i < translators.size(); i++) {
            Translator one = translators.get(i);
            int days = one.daysFor(tokens);
            if (one.knows(both) && (best == null || best.isWorseThan(days, one.assigned))) {
                best = new Way(i, NONE, tokens, days, one.assigned);
            }
        }
        return best;
    }

    private Way pivotWay(int tokens, int from, int to) {
        Way best = null;
        for (int pivot = 0; pivot < tongues.size(); pivot++) {
            for (int i = 0; pivot != from && pivot != to && i < translators.size(); i++) {
                if (translators.get(i).knows(1 << from | 1 << pivot)) {
                    best = secondWay(best, i, tokens, 1 << pivot | 1 << to);
                }
            }
        }
        return best;
    }

    /** The better one of a way and those of which the first translator is told. */
    private Way secondWay(Way before, int first, int tokens, int both) {
        Way best = before;
        Translator one = translatorAt(first);
        for (int j = 0; j < translators.size(); j++) {
            Translator other = translators.get(j);
            int days = one.daysFor(tokens) + other.daysFor(tokens);
            long assigned = one.assigned + other.assigned;
            if (other.knows(both) && (best == null || best.isWorseThan(days, assigned))) {
                best = new Way(first, j, tokens, days, assigned);
            }
        }
        return best;
    }

    // ---- letters and figures

    public int letter(int tongue) throws IndexOutOfBoundsException, IllegalStateException {
        tongueAt(tongue);
        if (letters.size() >= MOST_LETTERS) {
            throw new IllegalStateException("20 letters wait");
        }
        letters.add(new Letter(tongue, today));
        return letters.size();
    }

    public int answer(int translator) throws IndexOutOfBoundsException, NoSuchElementException {
        Translator answering = translatorAt(translator);
        for (int i = 0; i < letters.size(); i++) {
            Letter letter = letters.get(i);
            if (answering.knows(1 << letter.tongue)) {
                letters.remove(i);
                return today - letter.day;
            }
        }
        throw new NoSuchElementException("no letter waits for this one");
    }

    public int overdue() {
        int often = 0;
        for (int i = 0; i < letters.size(); i++) {
            if (today - letters.get(i).day > MOST_WAIT) {
                often++;
            }
        }
        return often;
    }

    public int day() {
        return today;
    }

    public long checksum() {
        long sum = 0;
        for (int i = 0; i < versions.size(); i++) {
            Version version = versions.get(i);
            sum = 31 * sum + version.day;
            for (int k = 0; k < version.text.size(); k++) {
                sum = 31 * sum + version.text.kindAt(k) + 7 * version.text.valueAt(k);
            }
        }
        return sum;
    }

    public float frozenShare() throws ArithmeticException {
        if (acts.isEmpty()) {
            throw new ArithmeticException("there are no acts");
        }
        int frozen = 0;
        for (int i = 0; i < acts.size(); i++) {
            if (acts.get(i).frozen) {
                frozen++;
            }
        }
        return (float) frozen / (float) acts.size();
    }

    public double meanTokens() throws NoSuchElementException {
        if (versions.isEmpty()) {
            throw new NoSuchElementException("there are no versions");
        }
        int sum = 0;
        for (int i = 0; i < versions.size(); i++) {
            sum += versions.get(i).text.size();
        }
        return (double) sum / (double) versions.size();
    }

    public boolean isSound() {
        for (int i = 0; i < judgments.size(); i++) {
            if (judgments.get(i).finding() != judgments.get(i).found) {
                return false;
            }
        }
        for (int i = 0; i < acts.size(); i++) {
            if (acts.get(i).frozen && !acts.get(i).isSoundInForce()) {
                return false;
            }
        }
        return true;
    }

    // ---- what calls need

    private static void needRange(int number, int least, int most) {
        if (number < least || number > most) {
            throw new IllegalArgumentException("a number is out of range");
        }
    }

    private void needConcept(int concept) {
        if (concept < 0 || concept >= concepts) {
            throw new IndexOutOfBoundsException("no such concept");
        }
    }

    private void needTwoTongues(int from, int to) {
        tongueAt(from);
        tongueAt(to);
        if (from == to) {
            throw new IllegalArgumentException("both tongues are the same");
        }
    }

    private static void needDrafted(Act act) {
        if (act.frozen) {
            throw new UnsupportedOperationException("the act is frozen");
        }
    }

    private void needRoom(int more) {
        if (versions.size() + more > MOST_VERSIONS) {
            throw new IllegalStateException("there would be more than 400 versions");
        }
    }

    private Tongue tongueAt(int tongue) {
        if (tongue < 0 || tongue >= tongues.size()) {
            throw new IndexOutOfBoundsException("no such tongue");
        }
        return tongues.get(tongue);
    }

    private Act actAt(int act) {
        if (act < 0 || act >= acts.size()) {
            throw new IndexOutOfBoundsException("no such act");
        }
        return acts.get(act);
    }

    private Unit unitAt(int act, int unit) {
        Act above = actAt(act);
        if (unit < 0 || unit >= above.units.size()) {
            throw new IndexOutOfBoundsException("no such unit");
        }
        return above.units.get(unit);
    }

    private Amendment amendmentAt(int amendment) {
        if (amendment < 0 || amendment >= amendments.size()) {
            throw new IndexOutOfBoundsException("no such amendment");
        }
        return amendments.get(amendment);
    }

    private Judgment judgmentAt(int judgment) {
        if (judgment < 0 || judgment >= judgments.size()) {
            throw new IndexOutOfBoundsException("no such judgment");
        }
        return judgments.get(judgment);
    }

    private Translator translatorAt(int translator) {
        if (translator < 0 || translator >= translators.size()) {
            throw new IndexOutOfBoundsException("no such translator");
        }
        return translators.get(translator);
    }

    private static Text textNow(Unit unit, int tongue) {
        Text text = unit.now(tongue);
        if (text == null) {
            throw new NoSuchElementException("no text in this tongue");
        }
        return text;
    }

    /** A row of tokens that never changes, so that drafts, versions and memories can share it. */
    private static final class Text {
        static final int NUMBERS = 0;
        static final int CONCEPTS = 2;
        private static final char[] SECTIONS = {'n', 'r', 't', 'm', 'x', 's'};
        private static final int VALUES = 10000;
        private static final int FORM_STEP = 10;

        /** Each token is its letter times VALUES plus its value, so that like tokens are like numbers. */
        private final int[] tokens;
        /** A row for each of SECTIONS, in an order that makes like kernels like rows. */
        private final int[][] kernel;

        Text(int[] tokens) {
            this.tokens = tokens;
            this.kernel = new int[][] {
                sorted(keysOf(tokens, 'n')), sorted(keysOf(tokens, 'r')), sorted(keysOf(tokens, 't')),
                keysOf(tokens, 'm'), keysOf(tokens, 'x'), conceptsBehindNegations(tokens)
            };
        }

        static int conceptOf(int value) {
            return value / FORM_STEP;
        }

        static int formOf(int value) {
            return value % FORM_STEP;
        }

        Text with(char kind, int value) {
            int[] longer = Arrays.copyOf(tokens, tokens.length + 1);
            longer[tokens.length] = kind * VALUES + value;
            return new Text(longer);
        }

        int size() {
            return tokens.length;
        }

        char kindAt(int index) {
            return index >= 0 && index < tokens.length ? (char) (tokens[index] / VALUES) : 0;
        }

        int valueAt(int index) {
            return index >= 0 && index < tokens.length ? tokens[index] % VALUES : 0;
        }

        /** The letter of the first section, from one on, in which the kernels differ, or '-'. */
        char firstUnlike(Text other, int from) {
            for (int s = from; s >= 0 && s < SECTIONS.length && s < kernel.length; s++) {
                if (s >= other.kernel.length || !isSameRow(kernel[s], other.kernel[s])) {
                    return SECTIONS[s];
                }
            }
            return '-';
        }

        /** The least number of tokens left out, put in and replaced. */
        int farFrom(Text other, int[] row) {
            if (other.tokens.length >= row.length) {
                return 0;
            }
            for (int j = 0; j <= other.tokens.length; j++) {
                row[j] = j;
            }
            for (int i = 0; i < tokens.length; i++) {
                int corner = row[0];
                row[0] = i + 1;
                for (int j = 0; j < other.tokens.length; j++) {
                    int replaced = corner + (tokens[i] == other.tokens[j] ? 0 : 1);
                    corner = row[j + 1];
                    row[j + 1] = Math.min(replaced, 1 + Math.min(row[j], row[j + 1]));
                }
            }
            return row[other.tokens.length];
        }

        /** What the text means by the meanings of the concepts in its tongue. */
        int situations(int[] meanings) {
            int found = ALL_SITUATIONS;
            for (int i = 0; i < tokens.length; i++) {
                int concept = conceptOf(valueAt(i));
                if (kindAt(i) == 't' && concept >= 0 && concept < meanings.length) {
                    found &= kindAt(i - 1) == 'x' ? ~meanings[concept] : meanings[concept];
                }
            }
            return found;
        }

        int usedConcepts() {
            int used = 0;
            for (int i = 0; i < tokens.length; i++) {
                if (kindAt(i) == 't') {
                    used |= 1 << conceptOf(valueAt(i));
                }
            }
            return used;
        }

        /** The values of the tokens of a kind, of terms the concepts. */
        private static int[] keysOf(int[] tokens, char kind) {
            int often = 0;
            for (int token : tokens) {
                if (token / VALUES == kind) {
                    often++;
                }
            }
            int[] keys = new int[often];
            int filled = 0;
            for (int token : tokens) {
                if (token / VALUES == kind && filled < keys.length) {
                    keys[filled] = kind == 't' ? conceptOf(token % VALUES) : token % VALUES;
                    filled++;
                }
            }
            return keys;
        }

        private static int[] conceptsBehindNegations(int[] tokens) {
            int[] found = keysOf(tokens, 'x');
            int behind = NONE;
            int left = found.length;
            for (int i = tokens.length - 1; i >= 0; i--) {
                if (tokens[i] / VALUES == 't') {
                    behind = conceptOf(tokens[i] % VALUES);
                } else if (tokens[i] / VALUES == 'x' && left > 0) {
                    left--;
                    found[left] = behind;
                }
            }
            return found;
        }

        private static int[] sorted(int[] row) {
            for (int i = 1; i < row.length; i++) {
                for (int j = i; j > 0 && row[j - 1] > row[j]; j--) {
                    int higher = row[j - 1];
                    row[j - 1] = row[j];
                    row[j] = higher;
                }
            }
            return row;
        }

        private static boolean isSameRow(int[] one, int[] other) {
            if (one.length != other.length) {
                return false;
            }
            for (int i = 0; i < one.length; i++) {
                if (one[i] != other[i]) {
                    return false;
                }
            }
            return true;
        }
    }

    /** The forms and meanings of all concepts in one tongue; those of concepts to come are as at first. */
    private static final class Tongue {
        private final boolean[] allowed = new boolean[MOST_CONCEPTS * FORMS];
        private final int[] counted = new int[MOST_CONCEPTS * FORMS];
        private final int[] meanings = new int[MOST_CONCEPTS];

        Tongue() {
            for (int i = 0; i < counted.length; i++) {
                counted[i] = i % FORMS;
            }
            Arrays.fill(meanings, ALL_SITUATIONS);
        }

        /** Whether a form itself is allowed, whatever it counts as. */
        boolean isAllowed(int concept, int form) {
            int place = concept * FORMS + form;
            return place >= 0 && place < allowed.length && allowed[place];
        }

        void setAllowed(int concept, int form, boolean is) {
            int place = concept * FORMS + form;
            if (place >= 0 && place < allowed.length) {
                allowed[place] = is;
            }
        }

        int countsAs(int concept, int form) {
            int place = concept * FORMS + form;
            return place >= 0 && place < counted.length ? counted[place] : form;
        }

        void setCountsAs(int concept, int form, int other) {
            int place = concept * FORMS + form;
            if (place >= 0 && place < counted.length) {
                counted[place] = other;
            }
        }

        int meant(int concept) {
            return concept >= 0 && concept < meanings.length ? meanings[concept] : ALL_SITUATIONS;
        }

        void setMeant(int concept, int situations) {
            if (concept >= 0 && concept < meanings.length) {
                meanings[concept] = situations;
            }
        }
    }

    private static final class Act {
        private final int purpose;
        private final int priority;
        private final ArrayList<Unit> units = new ArrayList<Unit>();
        /** The day from which the act is in force in each tongue, or NONE. */
        private final int[] since = new int[MOST_TONGUES];
        private int source;
        private int changes;
        private int deadline = LAST_DAY;
        private boolean frozen;

        Act(int purpose, int priority) {
            this.purpose = purpose;
            this.priority = priority;
            Arrays.fill(since, NONE);
        }

        int sinceIn(int tongue) {
            return tongue >= 0 && tongue < since.length ? since[tongue] : NONE;
        }

        void comeIntoForce(int tongue, int day) {
            if (tongue >= 0 && tongue < since.length) {
                since[tongue] = day;
            }
        }

        boolean isInForce(int tongue) {
            return sinceIn(tongue) != NONE;
        }

        boolean isBehind(int tongue) {
            return frozen && !isInForce(tongue);
        }

        int tonguesInForce() {
            int often = 0;
            for (int t = 0; t < MOST_TONGUES; t++) {
                often += isInForce(t) ? 1 : 0;
            }
            return often;
        }

        int levelOf(int unit) {
            return unit >= 0 && unit < units.size() ? units.get(unit).level : 0;
        }

        int staleTexts(int tongues) {
            int often = 0;
            for (int i = 0; !frozen && i < units.size(); i++) {
                for (int t = 0; t < tongues; t++) {
                    often += units.get(i).isStale(t) ? 1 : 0;
                }
            }
            return often;
        }

        int openAsks() {
            int open = 0;
            for (int i = 0; i < units.size(); i++) {
                open += units.get(i).asks;
            }
            return open;
        }

        boolean hasTokens(int unit, int tongue) {
            if (unit < 0 || unit >= units.size()) {
                return false;
            }
            Text text = units.get(unit).now(tongue);
            return text != null && text.size() > 0;
        }

        /** Units without a text in a tongue, one translated and not yet published counting as a text. */
        int unitsWithout(int tongue) {
            int often = 0;
            for (int i = 0; i < units.size(); i++) {
                often += units.get(i).stored(tongue) == null ? 1 : 0;
            }
            return often;
        }

        int unitsWithoutNow(int tongue) {
            return isBehind(tongue) ? units.size() : unitsWithout(tongue);
        }

        int tokensNow(int tongue) {
            int sum = 0;
            for (int i = 0; i < units.size(); i++) {
                Text text = units.get(i).now(tongue);
                sum += text == null ? 0 : text.size();
            }
            return sum;
        }

        /** Whether each unit has a translated text that is like its kernel, where there is one. */
        boolean fitsKernels(int tongue) {
            for (int i = 0; i < units.size(); i++) {
                Text text = units.get(i).stored(tongue);
                Text kernel = units.get(i).kernelText();
                if (text == null || kernel != null && text.firstUnlike(kernel, Text.NUMBERS) != '-') {
                    return false;
                }
            }
            return true;
        }

        boolean isSoundInForce() {
            for (int i = 0; i < units.size(); i++) {
                Unit unit = units.get(i);
                for (int t = 0; t < MOST_TONGUES; t++) {
                    if (isInForce(t) && unit.now(t) == null) {
                        return false;
                    }
                }
                if (!unit.isAlikeInAll() && unit.divergingTexts() == 0) {
                    return false;
                }
            }
            return true;
        }
    }

    private static final class Unit {
        private final Act act;
        private final int level;
        private final int defined;
        /** Drafts, then the texts in force, and what is translated for tongues that are behind. */
        private final Text[] texts = new Text[MOST_TONGUES];
        private final boolean[] fresh = new boolean[MOST_TONGUES];
        private int asks;

        Unit(Act act, int level, int defined) {
            this.act = act;
            this.level = level;
            this.defined = defined;
        }

        Text stored(int tongue) {
            return tongue >= 0 && tongue < texts.length ? texts[tongue] : null;
        }

        void store(int tongue, Text text) {
            if (tongue >= 0 && tongue < texts.length) {
                texts[tongue] = text;
            }
        }

        /** The text that counts now, or null: one that is not yet published counts as none. */
        Text now(int tongue) {
            return act.isBehind(tongue) ? null : stored(tongue);
        }

        void setFresh(int tongue, boolean is) {
            if (tongue >= 0 && tongue < fresh.length) {
                fresh[tongue] = is;
            }
        }

        boolean isStale(int tongue) {
            return tongue >= 0 && tongue < fresh.length && (stored(tongue) == null || !fresh[tongue]);
        }

        void draft(int tongue, Text text) {
            store(tongue, text);
            if (tongue == act.source) {
                for (int t = 0; t < fresh.length; t++) {
                    fresh[t] = false;
                }
                act.changes += asks > 0 ? 1 : 0;
                asks = 0;
            }
            // Without a text in the source there is none that this one could be behind.
            setFresh(tongue, stored(act.source) != null);
        }

        int usedConcepts(int tongues) {
            int used = 0;
            for (int t = 0; t < tongues; t++) {
                Text text = now(t);
                used |= text == null ? 0 : text.usedConcepts();
            }
            return used;
        }

        /** A text of the kernel of the unit in force, or null if there is none. */
        Text kernelText() {
            for (int t = 0; t < texts.length; t++) {
                Text text = act.isInForce(t) ? texts[t] : null;
                if (text != null && 2 * alike(text) > act.tonguesInForce()) {
                    return text;
                }
            }
            return null;
        }

        private int alike(Text text) {
            int often = 0;
            for (int t = 0; t < texts.length; t++) {
                Text other = act.isInForce(t) ? texts[t] : null;
                often += other != null && other.firstUnlike(text, Text.NUMBERS) == '-' ? 1 : 0;
            }
            return often;
        }

        char classify(int tongue, Text kernel) {
            Text text = stored(tongue);
            if (!act.isInForce(tongue) || text == null) {
                return '-';
            }
            if (kernel == null) {
                return 's';
            }
            if (text.firstUnlike(kernel, Text.NUMBERS) == '-') {
                return '-';
            }
            return text.firstUnlike(kernel, Text.CONCEPTS) == '-' ? 'm' : 'd';
        }

        int divergingTexts() {
            Text kernel = kernelText();
            int often = 0;
            for (int t = 0; t < texts.length; t++) {
                often += classify(t, kernel) == '-' ? 0 : 1;
            }
            return often;
        }

        boolean isAlikeInAll() {
            Text kernel = kernelText();
            return kernel != null && alike(kernel) == act.tonguesInForce();
        }
    }

    private static final class Version {
        private final Unit unit;
        private final int tongue;
        private final int day;
        private final Text text;

        Version(Unit unit, int tongue, int day, Text text) {
            this.unit = unit;
            this.tongue = tongue;
            this.day = day;
            this.text = text;
        }

        boolean isOf(Unit other, int otherTongue) {
            return unit == other && tongue == otherTongue;
        }
    }

    private static final class Amendment {
        private final Unit unit;
        private final int tongue;
        private final boolean isCompromise;
        private final Text[] texts = new Text[MOST_TONGUES];
        private char state = 'o';

        Amendment(Unit unit, int tongue, boolean isCompromise) {
            this.unit = unit;
            this.tongue = tongue;
            this.isCompromise = isCompromise;
        }

        Text textIn(int asked) {
            return asked >= 0 && asked < texts.length ? texts[asked] : null;
        }

        void setText(int told, Text text) {
            if (told >= 0 && told < texts.length) {
                texts[told] = text;
            }
        }

        /** How many texts it lacks in tongues in which the act is in force by now. */
        int lacking() {
            int often = 0;
            for (int t = 0; t < texts.length; t++) {
                often += unit.act.isInForce(t) && texts[t] == null ? 1 : 0;
            }
            return often;
        }
    }

    /** A judgment keeps the texts and meanings of its day, so that it can be found anew. */
    private static final class Judgment {
        private final Unit unit;
        private final char method;
        private final Text[] texts = new Text[MOST_TONGUES];
        private final int[][] meanings = new int[MOST_TONGUES][MOST_CONCEPTS];
        private int found;

        Judgment(Unit unit, char method) {
            this.unit = unit;
            this.method = method;
        }

        void hear(int tongue, Text text, int[] ofConcepts) {
            if (tongue >= 0 && tongue < texts.length && tongue < meanings.length
                    && ofConcepts.length == MOST_CONCEPTS) {
                texts[tongue] = text;
                System.arraycopy(ofConcepts, 0, meanings[tongue], 0, MOST_CONCEPTS);
            }
        }

        int finding() {
            int heard = 0;
            for (Text text : texts) {
                heard += text == null ? 0 : 1;
            }
            if (method == 'c') {
                return inAtLeast(heard);
            }
            if (method == 'm') {
                return inAtLeast(heard / 2 + 1);
            }
            // The least burden is the least that differs from no situations at all.
            return nearestTo(method == 'p' ? unit.act.purpose : 0);
        }

        private int inAtLeast(int least) {
            int common = 0;
            for (int s = 0; s < SITUATIONS; s++) {
                int often = 0;
                for (int t = 0; t < texts.length; t++) {
                    if (texts[t] != null) {
                        often += meantIn(t) >> s & 1;
                    }
                }
                common |= often >= least ? 1 << s : 0;
            }
            return common;
        }

        /** What the text that was heard in a tongue meant then; without a text, and without terms, all. */
        private int meantIn(int tongue) {
            if (tongue < 0 || tongue >= texts.length || tongue >= meanings.length || texts[tongue] == null) {
                return ALL_SITUATIONS;
            }
            return texts[tongue].situations(meanings[tongue]);
        }

        private int nearestTo(int aim) {
            int nearest = 0;
            int least = SITUATIONS + 1;
            for (int t = 0; t < texts.length; t++) {
                if (texts[t] != null) {
                    int meant = meantIn(t);
                    int differing = Integer.bitCount(meant ^ aim);
                    if (differing < least) {
                        nearest = meant;
                        least = differing;
                    }
                }
            }
            return nearest;
        }
    }

    private static final class Translator {
        private final int known;
        private final int speed;
        private long assigned;

        Translator(int known, int speed) {
            this.known = known;
            this.speed = speed;
        }

        boolean knows(int tongues) {
            return (known & tongues) == tongues;
        }

        int daysFor(int tokens) {
            return speed > 0 ? (tokens + speed - 1) / speed : tokens;
        }
    }

    /** A way to get an act translated: by one directly, or by two through a pivot. */
    private static final class Way {
        private final int first;
        private final int second;
        private final int tokens;
        private final int days;
        /** What both had been assigned before, which decides among equally fast ways. */
        private final long assigned;

        Way(int first, int second, int tokens, int days, long assigned) {
            this.first = first;
            this.second = second;
            this.tokens = tokens;
            this.days = days;
            this.assigned = assigned;
        }

        /** Strictly worse: of equal ways the one that was tried first stays. */
        boolean isWorseThan(int otherDays, long otherAssigned) {
            return otherDays < days || otherDays == days && otherAssigned < assigned;
        }
    }

    private static final class Entry {
        private final Unit unit;
        private final int from;
        private final int to;
        private final int translator;
        private final Text source;
        private final Text target;

        Entry(Unit unit, int from, int to, int translator, Text source, Text target) {
            this.unit = unit;
            this.from = from;
            this.to = to;
            this.translator = translator;
            this.source = source;
            this.target = target;
        }
    }

    private static final class Letter {
        private final int tongue;
        private final int day;

        Letter(int tongue, int day) {
            this.tongue = tongue;
            this.day = day;
        }
    }
}
