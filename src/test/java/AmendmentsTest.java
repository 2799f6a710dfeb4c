/** Promises 29 to 36: deadlines, amendments, compromises and votes. */
public final class AmendmentsTest {
    private static final Class<IllegalStateException> ISE = IllegalStateException.class;
    private static final Class<IllegalArgumentException> IAE = IllegalArgumentException.class;
    private static final Class<IndexOutOfBoundsException> IOOBE = IndexOutOfBoundsException.class;
    private static final Class<UnsupportedOperationException> UOE = UnsupportedOperationException.class;
    private static final Class<java.util.NoSuchElementException> NSEE = java.util.NoSuchElementException.class;

    public static void main(String[] args) {
        promise29();
        promise30();
        promise30Faults();
        promise31();
        promise31Faults();
        promise32();
        promise32Faults();
        promise33();
        promise33Now();
        promise34();
        promise34Lacking();
        promise35();
        promise35Faults();
        promise35Versions();
        promise36();
        Check.end("AmendmentsTest");
    }

    private static void promise29() {
        Equaltexts x = Check.office(1, 0);
        int act = x.act(0, 0);
        Check.due("9999 at first", 9999, x.setDeadline(act, 0));
        Check.due("the one before", 0, x.setDeadline(act, 9999));
        Check.due("the one before that", 9999, x.setDeadline(act, 7));
        Check.due("another act", 9999, x.setDeadline(x.act(0, 0), 8));
        Check.fails(x, "no act", IOOBE, () -> x.setDeadline(2, 10000));
        Check.fails(x, "act -1", IOOBE, () -> x.setDeadline(-1, 0));
        Check.fails(x, "day -1", IAE, () -> x.setDeadline(act, -1));
        Check.fails(x, "day 10000", IAE, () -> x.setDeadline(act, 10000));
        Check.due("it stays", 7, x.setDeadline(act, 7));
    }

    private static void promise30() {
        Equaltexts x = Check.office(2, 0);
        int act = Check.frozen(x, "w1", "w1");
        x.setDeadline(act, 3);
        Check.due("the first", 0, Check.move(x, act, 0, 0, "w2"));
        Check.due("the buffer is empty then", 0, x.wipe());
        Check.due("without tokens", 1, Check.move(x, act, 0, 1, ""));
        x.pass(3);
        Check.due("on the last day", 2, Check.move(x, act, 0, 1, "w4"));
        Check.due("of another act", 3, Check.move(x, Check.frozen(x, "w1", "w1"), 0, 0, "w4"));
        x.pass(1);
        Check.type(x, "w5");
        Check.fails(x, "the deadline has gone by", UOE, () -> x.move(act, 0, 0));
        x.setDeadline(act, 4);
        for (int i = 4; i < 12; i++) {
            Check.due("move", i, x.move(act, 0, 0));
        }
        Check.fails(x, "a thirteenth", ISE, () -> x.move(act, 0, 0));
        x.setDeadline(act, 3);
        Check.fails(x, "the deadline ahead of full", UOE, () -> x.move(act, 0, 0));
        Check.due("open", 'o', x.state(11));
    }

    private static void promise30Faults() {
        Equaltexts x = Check.office(2, 0);
        int act = Check.draft(x, "w1", "w1");
        Check.type(x, "w2");
        Check.fails(x, "drafted", UOE, () -> x.move(act, 0, 0));
        x.wipe();
        x.freeze(act);
        x.tongue();
        Check.translate(x, act, 0, 2, "w1");
        Check.type(x, "w2 w3");
        Check.fails(x, "not in force in this tongue", UOE, () -> x.move(act, 0, 2));
        Check.fails(x, "no act", IOOBE, () -> x.move(1, 0, 0));
        Check.fails(x, "act -1", IOOBE, () -> x.move(-1, 0, 0));
        Check.fails(x, "no unit", IOOBE, () -> x.move(act, 1, 0));
        Check.fails(x, "unit -1", IOOBE, () -> x.move(act, -1, 0));
        Check.fails(x, "no tongue", IOOBE, () -> x.move(act, 0, 3));
        Check.fails(x, "tongue -1", IOOBE, () -> x.move(act, 0, -1));
        Check.due("the buffer stays", 2, x.wipe());
    }

    private static void promise31() {
        Equaltexts x = Check.office(2, 0);
        int act = Check.frozen(x, "w1 w1", "w2");
        x.setDeadline(act, 0);
        Check.move(x, act, 0, 0, "w3 w1");
        Check.move(x, act, 0, 1, "w4 w4 w4");
        x.pass(1);
        Check.type(x, "w5 w2");
        Check.due("behind the deadline", 2, x.compromise(1, 0));
        Check.due("the buffer is empty then", 0, x.wipe());
        Check.due("in the tongue of the first one", 1, x.distance(2));
        Check.due("one is open", 'o', x.state(0));
        Check.due("the other is open", 'o', x.state(1));
        Check.fails(x, "its own tongue is not supplied", UOE, () -> x.supply(2, 1));
        Check.due("the other tongue is", 0, x.supply(2, 0));
        Check.due("without tokens, of a compromise", 3, x.compromise(0, 2));
        Check.due("in the tongue 0", 2, x.distance(3));
        for (int i = 4; i < 12; i++) {
            Check.due("compromise", i, x.compromise(0, 1));
        }
        Check.fails(x, "a thirteenth", ISE, () -> x.compromise(0, 1));
        Check.fails(x, "the same ahead of full", UOE, () -> x.compromise(0, 0));
    }

    private static void promise31Faults() {
        Equaltexts x = Check.office(1, 0);
        int act = Check.draft(x, "w1");
        Check.addUnit(x, act, "w1");
        x.freeze(act);
        int other = Check.frozen(x, "w1");
        for (int i = 0; i < 3; i++) {
            Check.move(x, act, 0, 0, "w2");
        }
        Check.move(x, act, 1, 0, "w2");
        Check.move(x, other, 0, 0, "w2");
        x.vote(0, 0, 0);
        Check.type(x, "w7");
        Check.fails(x, "one is not open", UOE, () -> x.compromise(0, 1));
        Check.fails(x, "the other is not open", UOE, () -> x.compromise(1, 0));
        Check.fails(x, "they are the same", UOE, () -> x.compromise(1, 1));
        Check.fails(x, "of unlike units", UOE, () -> x.compromise(1, 3));
        Check.fails(x, "of unlike acts", UOE, () -> x.compromise(1, 4));
        Check.fails(x, "no one", IOOBE, () -> x.compromise(5, 0));
        Check.fails(x, "no other", IOOBE, () -> x.compromise(0, 5));
        Check.fails(x, "one -1", IOOBE, () -> x.compromise(-1, 1));
        Check.fails(x, "other -1", IOOBE, () -> x.compromise(1, -1));
        Check.due("it can be", 5, x.compromise(1, 2));
    }

    private static void promise32() {
        Equaltexts x = Check.office(3, 0);
        int act = Check.frozen(x, "w1", "w1", "w1");
        Check.move(x, act, 0, 1, "w2");
        Check.due("one lacks", 1, Check.supply(x, 0, 0, "w3"));
        Check.due("the buffer is empty then", 0, x.wipe());
        Check.due("the same one again", 1, Check.supply(x, 0, 0, "w4 w4"));
        Check.due("none lacks", 0, x.supply(0, 2));
        Check.due("one anew", 0, Check.supply(x, 0, 2, "w5"));
        x.vote(0, 1, 0);
        Check.due("the last one counts", "w4 w4", Check.textOn(x, act, 0, 0, 0));
        Check.due("of the tongue in which it was moved", "w2", Check.textOn(x, act, 0, 1, 0));
        Check.due("and anew", "w5", Check.textOn(x, act, 0, 2, 0));
        int third = Check.move(x, act, 0, 2, "w6");
        Check.due("the tongue 0 lacks", 1, Check.supply(x, third, 1, "w6"));
        x.supply(third, 0);
        x.vote(third, 0, 0);
        Check.move(x, act, 0, 0, "");
        Check.supply(x, 2, 1, "");
        x.tongue();
        Check.due("where it is not in force it lacks none", 0, Check.supply(x, 2, 2, ""));
        Check.translate(x, act, 0, 3, "");
        x.publish(act, 3);
        Check.due("where it came into force later it does", 1, Check.supply(x, 2, 2, ""));
        Check.due("till it is supplied", 0, Check.supply(x, 2, 3, ""));
    }

    private static void promise32Faults() {
        Equaltexts x = Check.office(2, 0);
        int act = Check.frozen(x, "w1", "w1");
        x.tongue();
        Check.move(x, act, 0, 0, "w2");
        Check.type(x, "w3");
        Check.fails(x, "the tongue in which it was moved", UOE, () -> x.supply(0, 0));
        Check.fails(x, "not in force in it", UOE, () -> x.supply(0, 2));
        Check.fails(x, "no amendment", IOOBE, () -> x.supply(1, 1));
        Check.fails(x, "amendment -1", IOOBE, () -> x.supply(-1, 1));
        Check.fails(x, "no tongue", IOOBE, () -> x.supply(0, 3));
        Check.fails(x, "tongue -1", IOOBE, () -> x.supply(0, -1));
        x.supply(0, 1);
        x.vote(0, 0, 0);
        Check.type(x, "w3");
        Check.fails(x, "not open", UOE, () -> x.supply(0, 1));
        Check.fails(x, "no tongue ahead of that", IOOBE, () -> x.supply(0, 3));
    }

    private static void distant(int want, String one, String other) {
        Equaltexts x = Check.office(1, 2);
        int act = Check.frozen(x, one);
        int amendment = Check.move(x, act, 0, 0, other);
        Check.due("distance of " + one + " to " + other, want, x.distance(amendment));
        Check.fails(x, "no amendment", IOOBE, () -> x.distance(1));
    }

    private static void promise33() {
        distant(0, "", "");
        distant(0, "w1 n2 x", "w1 n2 x");
        distant(3, "", "w1 w2 w3");
        distant(3, "w1 w2 w3", "");
        distant(1, "w1 w2 w3", "w1 w4 w3");
        distant(1, "w1 w2 w3", "w2 w3");
        distant(1, "w1 w2 w3", "w1 w2 w9 w3");
        distant(2, "w1 w2", "w2 w1");
        distant(2, "w1 w2 w3 w4", "w2 w3 w4 w5");
        distant(1, "n1", "w1");
        distant(1, "t1", "t2");
        distant(1, "m0", "x");
        distant(10, "w1 w1 w1 w1 w1 w1 w1 w1 w1 w1", "n1 n1 n1 n1 n1 n1 n1 n1 n1 n1");
        distant(6, "w1 w2 w3 w4 w5 w6", "w6 w5 w4 w3 w2 w1");
        distant(3, "w1 w2 w3 w3 w2 w4", "w5 w2 w3 w4 w4");
    }

    private static void promise33Now() {
        Equaltexts x = Check.office(2, 0);
        int act = Check.frozen(x, "w1", "w1 w2");
        Check.move(x, act, 0, 1, "w1 w2 w3");
        Check.move(x, act, 0, 0, "w1 w2 w3");
        Check.due("in the tongue 1", 1, x.distance(0));
        Check.due("in the tongue 0", 2, x.distance(1));
        Check.supply(x, 0, 0, "");
        Check.supply(x, 1, 1, "");
        x.vote(1, 1, 0);
        Check.due("from the text that is in force now", 3, x.distance(0));
        Check.due("an adopted one is no more off", 0, x.distance(1));
        Check.fails(x, "amendment -1", IOOBE, () -> x.distance(-1));
    }

    private static void promise34() {
        Equaltexts x = Check.office(1, 0);
        int act = Check.draft(x, "w1 w2 w3");
        Check.addUnit(x, act, "w1");
        Check.fails(x, "drafted", NSEE, () -> x.next(act, 0));
        x.freeze(act);
        Check.fails(x, "none", NSEE, () -> x.next(act, 0));
        Check.move(x, act, 0, 0, "w1 w2 w4");
        Check.due("the only one", 0, x.next(act, 0));
        Check.move(x, act, 0, 0, "w5 w6 w3");
        Check.due("the farthest", 1, x.next(act, 0));
        Check.move(x, act, 0, 0, "w7 w7 w3");
        Check.due("of several the lower number", 1, x.next(act, 0));
        Check.move(x, act, 1, 0, "w4 w4 w4 w4 w4");
        Check.due("of another unit", 1, x.next(act, 0));
        Check.due("of the unit 1", 3, x.next(act, 1));
        Check.type(x, "w1 w2 w3");
        x.compromise(2, 0);
        Check.due("a compromise ahead of all others", 4, x.next(act, 0));
        x.compromise(0, 1);
        Check.due("by rising numbers, not by distances", 4, x.next(act, 0));
        x.vote(4, 0, 1);
        Check.due("the next compromise", 5, x.next(act, 0));
        x.vote(5, 0, 1);
        Check.due("the farthest again", 1, x.next(act, 0));
        x.vote(1, 0, 1);
        Check.due("the next far", 2, x.next(act, 0));
        x.vote(2, 0, 1);
        x.vote(0, 0, 1);
        Check.fails(x, "none is open", NSEE, () -> x.next(act, 0));
        Check.fails(x, "no act", IOOBE, () -> x.next(1, 0));
        Check.fails(x, "act -1", IOOBE, () -> x.next(-1, 0));
        Check.fails(x, "no unit", IOOBE, () -> x.next(act, 2));
        Check.fails(x, "unit -1", IOOBE, () -> x.next(act, -1));
    }

    private static void promise34Lacking() {
        Equaltexts x = Check.office(2, 0);
        int act = Check.frozen(x, "w1 w1", "w1");
        Check.move(x, act, 0, 0, "w2");
        Check.fails(x, "it lacks one", NSEE, () -> x.next(act, 0));
        Check.move(x, act, 0, 0, "w1");
        x.supply(1, 1);
        Check.due("the one that lacks none", 1, x.next(act, 0));
        x.compromise(0, 1);
        Check.due("a compromise that lacks one", 1, x.next(act, 0));
        x.supply(2, 1);
        Check.due("and that lacks none", 2, x.next(act, 0));
        x.supply(0, 1);
        x.vote(2, 0, 0);
        Check.due("the farthest", 0, x.next(act, 0));
        x.tongue();
        Check.translate(x, act, 0, 2, "w1");
        x.publish(act, 2);
        Check.fails(x, "all lack one in a tongue that joined", NSEE, () -> x.next(act, 0));
        x.supply(1, 2);
        Check.due("supplied in it", 1, x.next(act, 0));
    }

    private static void promise35() {
        Equaltexts x = Check.office(2, 0);
        int act = Check.draft(x, "w1", "w1");
        Check.addUnit(x, act, "w1", "w1");
        x.freeze(act);
        Check.move(x, act, 0, 1, "w2 w3 w4");
        Check.supply(x, 0, 0, "w5");
        Check.move(x, act, 0, 0, "w2");
        Check.move(x, act, 1, 0, "w2");
        Check.supply(x, 1, 1, "w6");
        Check.move(x, act, 0, 0, "w7 w8");
        Check.supply(x, 3, 1, "w9");
        x.pass(2);
        Check.due("as many ayes as noes", false, x.vote(0, 999, 999));
        Check.due("none at all", false, x.vote(3, 0, 0));
        Check.due("no version", 1, x.versions(act, 0, 0));
        Check.move(x, act, 0, 0, "w2");
        Check.due("more ayes", true, x.vote(1, 999, 998));
        Check.due("of this day", "w2", Check.textOn(x, act, 0, 0, 2));
        Check.due("in all tongues", "w6", Check.textOn(x, act, 0, 1, 2));
        Check.due("not before", "w1", Check.textOn(x, act, 0, 1, 1));
        Check.due("two versions", 2, x.versions(act, 0, 1));
        Check.due("another unit", 1, x.versions(act, 1, 0));
        Check.due("an open one falls, though it lacks a text", 'f', x.state(4));
        Check.due("a lost one does not", 'l', x.state(0));
        Check.due("nor one of another unit", 'o', x.state(2));
    }

    private static void promise35Faults() {
        Equaltexts x = Check.office(2, 0);
        int act = Check.frozen(x, "w1", "w1");
        Check.move(x, act, 0, 0, "w2");
        Check.fails(x, "it lacks a text", UOE, () -> x.vote(0, 1, 0));
        x.supply(0, 1);
        Check.move(x, act, 0, 0, "w2 w2");
        x.supply(1, 1);
        Check.fails(x, "another one is next", UOE, () -> x.vote(0, 1, 0));
        Check.fails(x, "ayes -1", IAE, () -> x.vote(0, -1, 0));
        Check.fails(x, "ayes 1000", IAE, () -> x.vote(1, 1000, 0));
        Check.fails(x, "noes -1", IAE, () -> x.vote(1, 0, -1));
        Check.fails(x, "noes 1000", IAE, () -> x.vote(0, 0, 1000));
        Check.fails(x, "no amendment", IOOBE, () -> x.vote(2, -1, 0));
        Check.fails(x, "amendment -1", IOOBE, () -> x.vote(-1, 1, 0));
        x.vote(1, 1, 0);
        Check.fails(x, "adopted", UOE, () -> x.vote(1, 1, 0));
        Check.fails(x, "fallen", UOE, () -> x.vote(0, 1, 0));
    }

    private static void promise35Versions() {
        Equaltexts x = Office400.frozen(396);
        int amendment = Office400.ready(x, 0);
        int other = Office400.ready(x, 1);
        Check.fails(x, "there would be 401", ISE, () -> x.vote(amendment, 2, 1));
        Check.fails(x, "no such number ahead of full", IAE, () -> x.vote(amendment, 1000, 1));
        Check.due("it is lost all the same", false, x.vote(amendment, 1, 1));
        Check.fails(x, "not next ahead of full", UOE, () -> x.vote(amendment, 2, 1));
        Check.due("another one stays open", 'o', x.state(other));
        Equaltexts y = Office400.frozen(395);
        Check.due("400 are enough", true, y.vote(Office400.ready(y, 0), 2, 1));
    }

    private static void promise36() {
        Equaltexts x = Check.office(1, 0);
        int act = Check.frozen(x, "w1");
        Check.move(x, act, 0, 0, "w2");
        Check.move(x, act, 0, 0, "w3");
        Check.move(x, act, 0, 0, "w4");
        Check.due("open", 'o', x.state(0));
        x.vote(0, 0, 1);
        x.vote(1, 1, 0);
        Check.due("lost", 'l', x.state(0));
        Check.due("adopted", 'a', x.state(1));
        Check.due("fallen", 'f', x.state(2));
        Check.fails(x, "no amendment", IOOBE, () -> x.state(3));
        Check.fails(x, "amendment -1", IOOBE, () -> x.state(-1));
    }
}
