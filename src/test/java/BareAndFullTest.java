import java.lang.reflect.InvocationTargetException;
import java.lang.reflect.Method;
import java.lang.reflect.Modifier;
import java.util.List;
import java.util.Map;

/** Offices in which nothing is there yet, and one in which everything is full. */
public final class BareAndFullTest {
    private static final Class<IndexOutOfBoundsException> IOOBE = IndexOutOfBoundsException.class;
    private static final Class<IllegalArgumentException> IAE = IllegalArgumentException.class;
    private static final Class<IllegalStateException> ISE = IllegalStateException.class;
    private static final Class<UnsupportedOperationException> UOE = UnsupportedOperationException.class;
    private static final Class<java.util.NoSuchElementException> NSEE = java.util.NoSuchElementException.class;
    private static final Class<ArithmeticException> AE = ArithmeticException.class;

    private static final int[] FAR = {Integer.MIN_VALUE, -1, 0, Integer.MAX_VALUE};

    public static void main(String[] args) throws IllegalAccessException {
        nothingButAnOffice();
        nothingButAnOfficeRefuses();
        nothingButTonguesAndConcepts();
        nothingButAnAct();
        nothingButUnits();
        nothingInTheTexts();
        nothingInTheTextsInForce();
        everythingFull();
        everythingFullAndRoomAgain();
        for (Equaltexts x : new Equaltexts[] {new Equaltexts(), Check.office(1, 1), act(), units(), empty(), full()}) {
            farOff(x);
        }
        Check.end("BareAndFullTest");
    }

    // ---- nothing there yet

    private static void nothingButAnOffice() {
        Equaltexts x = new Equaltexts();
        Check.due("wipe", 0, x.wipe());
        Check.due("conflicts", 0, x.conflicts());
        Check.due("overdue", 0, x.overdue());
        Check.due("day", 0, x.day());
        Check.due("checksum", 0L, x.checksum());
        Check.due("isSound", true, x.isSound());
        Check.due("the first tongue", 0, new Equaltexts().tongue());
        Check.due("the first concept", 0, new Equaltexts().concept());
        Check.due("the first act", 0, new Equaltexts().act(0, 0));
        Check.due("the first translator", 0, new Equaltexts().translator(0, 1));
        Check.due("the first token", 1, new Equaltexts().type('r', 0));
        Check.due("the first day behind", 1, new Equaltexts().pass(1));
    }

    private static void nothingButAnOfficeRefuses() {
        Equaltexts x = new Equaltexts();
        Check.Call[] nothing = {
            () -> x.allow(0, 0, 0, true), () -> x.alias(0, 0, 0, 0), () -> x.mean(0, 0, 0), () -> x.unit(0, -1, -1),
            () -> x.setSource(0, 0), () -> x.write(0, 0, 0), () -> x.stale(0), () -> x.ask(0, 0, 0),
            () -> x.changed(0), () -> x.freeze(0), () -> x.tokens(0, 0, 0, 0), () -> x.tokenAt(0, 0, 0, 0, 0, true),
            () -> x.versions(0, 0, 0), () -> x.applies(0, 0, 0), () -> x.difference(0, 0, 0, 0),
            () -> x.forbidden(0, 0), () -> x.undefined(0), () -> x.dangling(0, 0), () -> x.divergence(0, 0, 0),
            () -> x.diverging(0), () -> x.corrigendum(0, 0, 0), () -> x.setDeadline(0, 0), () -> x.move(0, 0, 0),
            () -> x.compromise(0, 0), () -> x.supply(0, 0), () -> x.distance(0), () -> x.next(0, 0),
            () -> x.vote(0, 0, 0), () -> x.state(0), () -> x.meaning(0, 0, 0), () -> x.judge(0, 0, 'c', 0),
            () -> x.judged(0), () -> x.replay(0), () -> x.backlog(0), () -> x.backlogAt(0, 0),
            () -> x.translate(0, 0, 0), () -> x.publish(0, 0), () -> x.days(0, 0, 0), () -> x.assign(0, 0, 0),
            () -> x.load(0), () -> x.memorize(0, 0, 0, 0, 0), () -> x.propose(0, 0, 0, 0), () -> x.poison(0),
            () -> x.letter(0), () -> x.answer(0)
        };
        for (int i = 0; i < nothing.length; i++) {
            Check.fails(x, "nothing is there, call " + i, IOOBE, nothing[i]);
        }
        Check.fails(x, "no concept to type", IAE, () -> x.type('t', 0));
        Check.fails(x, "no tongue to know", IAE, () -> x.translator(1, 1));
        Check.fails(x, "no acts to share", AE, x::frozenShare);
        Check.fails(x, "no versions to measure", NSEE, x::meanTokens);
    }

    private static void nothingButTonguesAndConcepts() {
        Equaltexts x = Check.office(1, 1);
        Check.due("no form allowed", false, x.allow(0, 0, 0, false));
        Check.due("it counts as itself", 0, x.alias(0, 0, 0, 0));
        Check.due("all situations", 4095, x.mean(0, 0, 4095));
        Check.due("no backlog", 0, x.backlog(0));
        Check.fails(x, "nor an act in it", NSEE, () -> x.backlogAt(0, 0));
        Check.fails(x, "no act, though a tongue", IOOBE, () -> x.forbidden(0, 0));
        Check.fails(x, "no act to apply", IOOBE, () -> x.applies(0, 0, 0));
        Check.due("the first letter", 1, x.letter(0));
        Check.due("a term", 1, x.type('t', 5));
    }

    private static Equaltexts act() {
        Equaltexts x = Check.office(2, 1);
        x.act(0, 0);
        x.translator(3, 1);
        return x;
    }

    private static void nothingButAnAct() {
        Equaltexts x = act();
        Check.due("none are stale", 0, x.stale(0));
        Check.due("none changed", 0, x.changed(0));
        Check.due("no forms", 0, x.forbidden(0, 0));
        Check.due("no concepts", 0, x.undefined(0));
        Check.due("no references", 0, x.dangling(0, 0));
        Check.due("no divergences", 0, x.diverging(0));
        Check.due("not applied", false, x.applies(0, 0, 9999));
        Check.due("no tokens, no days", 0, x.days(0, 0, 1));
        Check.due("an empty work", 0, x.assign(0, 0, 1));
        Check.due("of no tokens", 0L, x.load(0));
        Check.due("a deadline", 9999, x.setDeadline(0, 9999));
        Check.due("no act is frozen", 0f, x.frozenShare());
        Check.due("sound", true, x.isSound());
        Check.fails(x, "no units to freeze", UOE, () -> x.freeze(0));
        Check.fails(x, "not frozen", UOE, () -> x.publish(0, 0));
        Check.fails(x, "no unit to write", IOOBE, () -> x.write(0, 0, 0));
        Check.fails(x, "no unit to judge", IOOBE, () -> x.judge(0, 0, 'c', 0));
        Check.fails(x, "no unit to be below", IAE, () -> x.unit(0, 0, -1));
        Check.due("the first unit", 0, x.unit(0, -1, 0));
    }

    private static Equaltexts units() {
        Equaltexts x = act();
        x.unit(0, -1, 0);
        x.unit(0, 0, -1);
        return x;
    }

    private static void nothingButUnits() {
        Equaltexts x = units();
        Check.due("no texts", 4, x.stale(0));
        Check.due("no forms", 0, x.forbidden(0, 1));
        Check.due("no concepts used, one defined", 0, x.undefined(0));
        Check.due("no references", 0, x.dangling(0, 1));
        Check.due("no divergences", 0, x.diverging(0));
        Check.due("no versions", 0, x.versions(0, 1, 1));
        Check.fails(x, "no tokens", NSEE, () -> x.tokens(0, 0, 0, 0));
        Check.fails(x, "no token", NSEE, () -> x.tokenAt(0, 0, 0, 0, 0, false));
        Check.fails(x, "no difference", NSEE, () -> x.difference(0, 0, 0, 0));
        Check.fails(x, "no meaning", NSEE, () -> x.meaning(0, 0, 0));
        Check.fails(x, "no text in the source", UOE, () -> x.ask(0, 0, 1));
        Check.fails(x, "stale", UOE, () -> x.freeze(0));
        Check.fails(x, "no divergence", UOE, () -> x.divergence(0, 0, 0));
        Check.fails(x, "no corrigendum", UOE, () -> x.corrigendum(0, 0, 0));
        Check.fails(x, "no amendment", UOE, () -> x.move(0, 0, 0));
        Check.fails(x, "none is next", NSEE, () -> x.next(0, 0));
        Check.fails(x, "not frozen for a court", UOE, () -> x.judge(0, 0, 'c', 0));
        Check.fails(x, "not frozen for a translation", UOE, () -> x.translate(0, 0, 0));
        Check.fails(x, "no text to work on", NSEE, () -> x.days(0, 0, 1));
        Check.fails(x, "nor to assign", NSEE, () -> x.assign(0, 0, 1));
        Check.fails(x, "nor to memorize", NSEE, () -> x.memorize(0, 0, 0, 1, 0));
        Check.fails(x, "nor to propose for", NSEE, () -> x.propose(0, 0, 0, 1));
        Check.due("nothing to take out", 0, x.poison(0));
        Check.fails(x, "nothing to answer", NSEE, () -> x.answer(0));
        Check.due("the first text, without tokens", 3, x.write(0, 0, 0));
    }

    private static Equaltexts empty() {
        Equaltexts x = act();
        Check.addUnit(x, 0, "", "");
        return x;
    }

    private static void nothingInTheTexts() {
        Equaltexts x = empty();
        Check.due("texts are there", 0, x.stale(0));
        Check.due("alike", '-', x.difference(0, 0, 0, 1));
        Check.due("all situations", 4095, x.meaning(0, 0, 1));
        Check.due("no days", 0, x.days(0, 0, 1));
        Check.due("memorized", 1, x.memorize(0, 0, 0, 1, 0));
        Check.due("proposed", 0, x.propose(0, 0, 0, 1));
        Check.due("without tokens", 0, x.wipe());
        Check.due("frozen", 2, x.freeze(0));
    }

    private static void nothingInTheTextsInForce() {
        Equaltexts x = empty();
        x.freeze(0);
        Check.due("no tokens", 0, x.tokens(0, 0, 0, 0));
        Check.fails(x, "no token", NSEE, () -> x.tokenAt(0, 0, 0, 0, 0, false));
        Check.due("the day 0, no tokens", 0L, x.checksum());
        Check.due("no tokens in the mean", 0.0, x.meanTokens());
        Check.due("all acts are frozen", 1f, x.frozenShare());
        Check.due("no divergence", '-', x.divergence(0, 0, 1));
        for (char method : new char[] {'c', 'm', 'b'}) {
            Check.due("all situations", 4095, x.judged(x.judge(0, 0, method, 0)));
        }
        Check.due("an amendment without tokens", 0, x.move(0, 0, 1));
        Check.due("without a distance", 0, x.distance(0));
        Check.due("supplied", 0, x.supply(0, 0));
        Check.due("adopted", true, x.vote(0, 1, 0));
        Check.due("two versions", 2, x.versions(0, 0, 0));
        x.tongue();
        Check.due("translated", 0, x.translate(0, 0, 2));
        Check.due("published", 5, x.publish(0, 2));
    }

    // ---- everything full

    /** All numbers of the document are reached: that of the versions, the days and of tokens in the buffer, too. */
    private static Equaltexts full() {
        Equaltexts x = Office400.frozen(395);
        Office400.adopt(x, 10);
        for (int i = 0; i < 16; i++) {
            x.concept();
        }
        while (hasRoomForAmendments(x)) {
            x.wipe();
        }
        for (int i = 0; i < 30; i++) {
            x.judge(i % 5, i % 12, "cmpb".charAt(i % 4), i % 10);
        }
        for (int i = 0; i < 8; i++) {
            x.translator(31, 99);
        }
        for (int i = 0; i < 20; i++) {
            x.memorize(i % 5, i % 12, i % 4, (i + 1) % 4, i % 8);
            x.letter(i % 5);
        }
        while (x.day() < 9999) {
            x.pass(Math.min(365, 9999 - x.day()));
        }
        Check.type(x, "w99 t155 n9999 r11 m1 x0 w0 t0 n0 r0");
        return x;
    }

    private static boolean hasRoomForAmendments(Equaltexts x) {
        try {
            x.move(1, 0, 0);
            return true;
        } catch (IllegalStateException e) {
            return false;
        }
    }

    private static void everythingFull() {
        Equaltexts x = full();
        Check.fails(x, "a tongue", ISE, x::tongue);
        Check.fails(x, "a concept", ISE, x::concept);
        for (char kind : "wtnrmx".toCharArray()) {
            Check.fails(x, "a token", ISE, () -> x.type(kind, 0));
        }
        Check.fails(x, "a day", ISE, () -> x.pass(1));
        Check.fails(x, "an act", ISE, () -> x.act(4095, 9));
        Check.fails(x, "a unit, frozen first", UOE, () -> x.unit(4, -1, -1));
        Check.fails(x, "an amendment", ISE, () -> x.move(4, 11, 4));
        Check.fails(x, "a compromise", ISE, () -> x.compromise(11, 10));
        Check.fails(x, "a judgment", ISE, () -> x.judge(4, 11, 'b', 9));
        Check.fails(x, "a translator", ISE, () -> x.translator(31, 99));
        Check.fails(x, "an entry", ISE, () -> x.memorize(4, 11, 3, 4, 7));
        Check.fails(x, "a letter", ISE, () -> x.letter(4));
        Check.due("400 versions", 400, versionsOf(x));
        Check.due("the last tongue", 1, x.backlog(4));
        Check.due("the last concept", 4095, x.mean(15, 4, 4095));
        Check.due("the last judgment", x.judged(29), x.replay(29));
        Check.due("the last translator", 0L, x.load(7));
        Check.due("the last amendment", 'o', x.state(11));
        Check.due("the last day", 9999, x.day());
        Check.due("all letters are overdue", 20, x.overdue());
        Check.due("sound", true, x.isSound());
    }

    private static int versionsOf(Equaltexts x) {
        int sum = 0;
        for (int act = 0; act < 5; act++) {
            for (int unit = 0; unit < 12; unit++) {
                for (int t = 0; t < 5; t++) {
                    sum += x.versions(act, unit, t);
                }
            }
        }
        return sum;
    }

    private static void everythingFullAndRoomAgain() {
        Equaltexts x = full();
        Check.due("all ten tokens", 10, x.wipe());
        for (int i = 1; i <= 10; i++) {
            Check.due("room for tokens", i, x.type('x', 0));
        }
        Check.fails(x, "and no more", ISE, () -> x.type('x', 0));
        Check.due("all days but the first", 9999, x.answer(7));
        Check.due("room for a letter", 20, x.letter(0));
        Check.fails(x, "and for no other one", ISE, () -> x.letter(0));
        Check.due("the entries of the last translator", 2, x.poison(7));
        Check.due("room for an entry", 19, x.memorize(0, 0, 0, 1, 0));
        Check.due("and for another one", 20, x.memorize(0, 0, 0, 1, 0));
        Check.fails(x, "and for none more", ISE, () -> x.memorize(0, 0, 0, 1, 0));
        Check.due("a proposal takes the place of a full buffer", 0, x.propose(0, 0, 0, 1));
        Check.due("its tokens", 0, x.wipe());
        for (int t = 1; t < 5; t++) {
            x.supply(11, t);
        }
        Check.due("the last amendment is lost", false, x.vote(11, 0, 0));
        Check.fails(x, "that makes no room", ISE, () -> x.move(1, 0, 0));
    }

    // ---- far off

    /** Whatever the arguments are, nothing but what is documented is thrown, by the class itself. */
    private static void farOff(Equaltexts x) throws IllegalAccessException {
        Map<String, List<String>> rows = Document.rows();
        for (Method method : Equaltexts.class.getDeclaredMethods()) {
            if (Modifier.isPublic(method.getModifiers())) {
                Object[] arguments = new Object[method.getParameterCount()];
                farOff(x, method, arguments, 0, rows.getOrDefault(method.getName(), List.of()));
            }
        }
    }

    private static void farOff(Equaltexts x, Method method, Object[] arguments, int from, List<String> rows)
            throws IllegalAccessException {
        if (from < arguments.length) {
            for (int value : FAR) {
                Class<?> type = method.getParameterTypes()[from];
                arguments[from] = type == boolean.class ? (Object) (value < 0)
                    : type == char.class ? (Object) (char) value : (Object) value;
                farOff(x, method, arguments, from + 1, rows);
            }
            return;
        }
        String call = method.getName() + java.util.Arrays.toString(arguments);
        try {
            method.invoke(x, arguments);
        } catch (InvocationTargetException e) {
            RuntimeException thrown = (RuntimeException) e.getCause();
            Check.due(call + " throws a documented one", true, rows.contains(thrown.getClass().getSimpleName()));
            Check.due(call + " throws by itself", "Equaltexts", Check.thrower(thrown));
        }
    }
}
