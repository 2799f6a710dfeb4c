/** Promises 10 to 17: acts, units, sources, stale texts, asks and freezing. */
public final class DraftingTest {
    private static final Class<IllegalStateException> ISE = IllegalStateException.class;
    private static final Class<IllegalArgumentException> IAE = IllegalArgumentException.class;
    private static final Class<IndexOutOfBoundsException> IOOBE = IndexOutOfBoundsException.class;
    private static final Class<UnsupportedOperationException> UOE = UnsupportedOperationException.class;

    public static void main(String[] args) {
        promise10();
        promise11();
        promise11Frozen();
        promise12();
        promise13();
        promise13WithoutSource();
        promise13Faults();
        promise14();
        promise15();
        promise16();
        promise17();
        promise17Faults();
        promise17Versions();
        Check.end("DraftingTest");
    }

    private static void promise10() {
        Equaltexts x = new Equaltexts();
        Check.fails(x, "purpose -1", IAE, () -> x.act(-1, 0));
        Check.fails(x, "purpose 4096", IAE, () -> x.act(4096, 0));
        Check.fails(x, "priority -1", IAE, () -> x.act(0, -1));
        Check.fails(x, "priority 10", IAE, () -> x.act(0, 10));
        for (int i = 0; i < 5; i++) {
            Check.due("act", i, x.act(4095, 9));
        }
        Check.fails(x, "a sixth act", ISE, () -> x.act(0, 0));
        Check.fails(x, "a sixth act out of range", IAE, () -> x.act(0, 10));
        x.tongue();
        x.tongue();
        Check.due("it is drafted in the tongue 0", 0, x.setSource(4, 1));
        Check.fails(x, "it has no units", IOOBE, () -> x.write(4, 0, 0));
    }

    private static void promise11() {
        Equaltexts x = Check.office(1, 2);
        int act = x.act(0, 0);
        Check.due("level 1", 0, x.unit(act, -1, 1));
        Check.due("level 2", 1, x.unit(act, 0, -1));
        Check.due("level 3", 2, x.unit(act, 1, 0));
        Check.fails(x, "level 4", IAE, () -> x.unit(act, 2, -1));
        Check.fails(x, "below one to come", IAE, () -> x.unit(act, 3, -1));
        Check.fails(x, "below -2", IAE, () -> x.unit(act, -2, -1));
        Check.fails(x, "defines 2", IAE, () -> x.unit(act, -1, 2));
        Check.fails(x, "defines -2", IAE, () -> x.unit(act, -1, -2));
        Check.fails(x, "no act", IOOBE, () -> x.unit(1, -5, -1));
        Check.fails(x, "act -1", IOOBE, () -> x.unit(-1, -1, -1));
        Check.due("another of level 1", 3, x.unit(act, -1, 0));
        Check.due("below it", 4, x.unit(act, 3, 0));
        Check.due("level 3 again", 5, x.unit(act, 4, 0));
        for (int i = 6; i < 12; i++) {
            Check.due("unit", i, x.unit(act, -1, -1));
        }
        Check.fails(x, "a thirteenth unit", ISE, () -> x.unit(act, -1, -1));
        Check.fails(x, "a thirteenth unit too deep", IAE, () -> x.unit(act, 5, -1));
        Check.due("units are of one act", 0, x.unit(x.act(0, 0), -1, -1));
    }

    private static void promise11Frozen() {
        Equaltexts x = Check.office(1, 1);
        int act = x.act(0, 0);
        for (int i = 0; i < 12; i++) {
            Check.addUnit(x, act, "w1");
        }
        x.freeze(act);
        Check.fails(x, "frozen ahead of full", UOE, () -> x.unit(act, -1, -1));
        Check.fails(x, "wrong ahead of frozen", IAE, () -> x.unit(act, 12, -1));
        Check.fails(x, "no such concept ahead of frozen", IAE, () -> x.unit(act, -1, 1));
    }

    private static void promise12() {
        Equaltexts x = Check.office(3, 0);
        int act = Check.draft(x, "w1", "w2");
        Check.addUnit(x, act, "w3");
        // Stale: tongue 2 of the unit 0, tongues 1 and 2 of the unit 1.
        Check.due("stale", 3, x.stale(act));
        Check.write(x, act, 0, 0, "w4");
        Check.due("stale", 4, x.stale(act));
        Check.due("from 0 to 1", 0, x.setSource(act, 1));
        Check.due("the text of the new source is fresh, one that is not there is not", 3, x.stale(act));
        Check.due("from 1 to 0", 1, x.setSource(act, 0));
        Check.due("that makes nothing stale", 3, x.stale(act));
        Check.due("to itself", 0, x.setSource(act, 0));
        x.setSource(act, 1);
        Check.write(x, act, 0, 1, "w5");
        Check.due("the old source is stale behind the new one", 4, x.stale(act));
        Check.fails(x, "no act", IOOBE, () -> x.setSource(1, 0));
        Check.fails(x, "act -1", IOOBE, () -> x.setSource(-1, 0));
        Check.fails(x, "no tongue", IOOBE, () -> x.setSource(act, 3));
        Check.fails(x, "tongue -1", IOOBE, () -> x.setSource(act, -1));
        Equaltexts y = Check.office(1, 0);
        Check.frozen(y, "w1");
        Check.fails(y, "frozen", UOE, () -> y.setSource(0, 0));
        Check.fails(y, "no tongue ahead of frozen", IOOBE, () -> y.setSource(0, 1));
    }

    private static void promise13() {
        Equaltexts x = Check.office(3, 0);
        int act = x.act(0, 0);
        x.unit(act, -1, -1);
        x.unit(act, -1, -1);
        Check.due("the source", 5, Check.write(x, act, 0, 0, "w1"));
        Check.due("the buffer is empty then", 0, x.wipe());
        Check.due("another tongue", 4, Check.write(x, act, 0, 1, "w1"));
        Check.due("the last tongue", 3, Check.write(x, act, 0, 2, "w1"));
        Check.due("the source of another unit", 2, Check.write(x, act, 1, 0, ""));
        Check.due("the source anew makes all others stale", 4, Check.write(x, act, 0, 0, "w2"));
        Check.due("a stale one anew", 3, Check.write(x, act, 0, 2, "w2"));
        Check.due("a fresh one anew", 3, Check.write(x, act, 0, 2, "w3"));
        x.tongue();
        Check.due("in a tongue that joined later all are stale", 4, Check.write(x, act, 0, 1, "w2"));
        Check.write(x, act, 0, 3, "");
        Check.write(x, act, 1, 1, "");
        Check.write(x, act, 1, 2, "");
        Check.due("texts without tokens are there", 0, Check.write(x, act, 1, 3, ""));
        x.freeze(act);
        Check.due("the last text", "w3", Check.textOn(x, act, 0, 2, 0));
        Check.due("the source", "w2", Check.textOn(x, act, 0, 0, 0));
        Check.due("an empty one", "", Check.textOn(x, act, 1, 3, 0));
    }

    private static void promise13WithoutSource() {
        Equaltexts x = Check.office(3, 0);
        int act = x.act(0, 0);
        x.unit(act, -1, -1);
        Check.due("not behind a text in the source", 3, Check.write(x, act, 0, 1, "w1"));
        Check.due("the source", 2, Check.write(x, act, 0, 0, "w1"));
        Check.due("behind it", 1, Check.write(x, act, 0, 1, "w1"));
        x.setSource(act, 2);
        Check.due("both stay fresh", 1, x.stale(act));
        Check.due("but not a new one", 2, Check.write(x, act, 0, 1, "w2"));
        x.setSource(act, 1);
        Check.due("its texts are fresh as the source", 1, x.stale(act));
        x.setSource(act, 0);
        Check.due("and stay so", 1, x.stale(act));
    }

    private static void promise13Faults() {
        Equaltexts x = Check.office(1, 0);
        int act = x.act(0, 0);
        x.unit(act, -1, -1);
        Check.type(x, "w1 w2");
        Check.fails(x, "no act", IOOBE, () -> x.write(1, 0, 0));
        Check.fails(x, "act -1", IOOBE, () -> x.write(-1, 0, 0));
        Check.fails(x, "no unit", IOOBE, () -> x.write(act, 1, 0));
        Check.fails(x, "unit -1", IOOBE, () -> x.write(act, -1, 0));
        Check.fails(x, "no tongue", IOOBE, () -> x.write(act, 0, 1));
        Check.fails(x, "tongue -1", IOOBE, () -> x.write(act, 0, -1));
        x.write(act, 0, 0);
        x.freeze(act);
        Check.type(x, "w3");
        Check.fails(x, "frozen", UOE, () -> x.write(act, 0, 0));
        Check.fails(x, "no tongue ahead of frozen", IOOBE, () -> x.write(act, 0, 1));
        Check.due("the buffer stays", 1, x.wipe());
    }

    private static void promise14() {
        Equaltexts x = Check.office(2, 0);
        int act = x.act(0, 0);
        Check.due("no units", 0, x.stale(act));
        x.unit(act, -1, -1);
        Check.due("no texts", 2, x.stale(act));
        x.tongue();
        Check.due("a tongue joined", 3, x.stale(act));
        Check.write(x, act, 0, 0, "w1");
        Check.write(x, act, 0, 1, "w1");
        Check.due("one is not there", 1, x.stale(act));
        Check.write(x, act, 0, 2, "w1");
        Check.due("none", 0, x.stale(act));
        x.freeze(act);
        x.tongue();
        Check.due("0 of a frozen one", 0, x.stale(act));
        Check.fails(x, "no act", IOOBE, () -> x.stale(1));
        Check.fails(x, "act -1", IOOBE, () -> x.stale(-1));
    }

    private static void promise15() {
        Equaltexts x = Check.office(2, 0);
        int act = x.act(0, 0);
        x.unit(act, -1, -1);
        x.unit(act, -1, -1);
        Check.fails(x, "its source has no text", UOE, () -> x.ask(act, 0, 1));
        Check.write(x, act, 0, 0, "w1");
        Check.due("an ask", 1, x.ask(act, 0, 1));
        Check.due("another one", 2, x.ask(act, 0, 1));
        Check.fails(x, "this is the source", UOE, () -> x.ask(act, 0, 0));
        Check.fails(x, "another unit without text", UOE, () -> x.ask(act, 1, 1));
        Check.write(x, act, 1, 0, "w1");
        Check.due("of another unit", 3, x.ask(act, 1, 1));
        Check.write(x, act, 0, 1, "w2");
        Check.due("open till the source is written", 4, x.ask(act, 1, 1));
        Check.write(x, act, 0, 0, "w2");
        Check.due("two are closed", 3, x.ask(act, 1, 1));
        x.setSource(act, 1);
        Check.write(x, act, 1, 1, "w3");
        Check.due("closed by the source as it is told then", 1, x.ask(act, 0, 0));
        Check.fails(x, "no act", IOOBE, () -> x.ask(1, 0, 1));
        Check.fails(x, "no unit", IOOBE, () -> x.ask(act, 2, 1));
        Check.fails(x, "unit -1", IOOBE, () -> x.ask(act, -1, 1));
        Check.fails(x, "no tongue", IOOBE, () -> x.ask(act, 0, 2));
        Equaltexts y = Check.office(2, 0);
        Check.frozen(y, "w1", "w1");
        Check.fails(y, "frozen", UOE, () -> y.ask(0, 0, 1));
        Check.fails(y, "no tongue ahead of frozen", IOOBE, () -> y.ask(0, 0, -1));
    }

    private static void promise16() {
        Equaltexts x = Check.office(3, 0);
        int act = Check.draft(x, "w1", "w1", "w1");
        Check.due("never", 0, x.changed(act));
        Check.write(x, act, 0, 0, "w2");
        Check.due("no ask was open", 0, x.changed(act));
        x.ask(act, 0, 1);
        x.ask(act, 0, 2);
        Check.write(x, act, 0, 1, "w2");
        Check.due("not the source", 0, x.changed(act));
        Check.write(x, act, 0, 0, "w3");
        Check.due("two asks, one change", 1, x.changed(act));
        Check.write(x, act, 0, 0, "w4");
        Check.due("none is open any more", 1, x.changed(act));
        x.ask(act, 0, 1);
        x.setSource(act, 1);
        Check.write(x, act, 0, 0, "w5");
        Check.due("the old source is none", 1, x.changed(act));
        Check.write(x, act, 0, 1, "w5");
        Check.due("the new source is one", 2, x.changed(act));
        Check.addUnit(x, act, "w1", "w1", "w1");
        x.ask(act, 1, 0);
        Check.write(x, act, 0, 1, "w6");
        Check.due("an ask about another unit", 2, x.changed(act));
        Check.due("another act", 0, x.changed(x.act(0, 0)));
        Check.fails(x, "no act", IOOBE, () -> x.changed(2));
        Check.fails(x, "act -1", IOOBE, () -> x.changed(-1));
    }

    private static void promise17() {
        Equaltexts x = Check.office(2, 0);
        int act = Check.draft(x, "n1", "n2");
        Check.addUnit(x, act, "w1", "");
        x.pass(3);
        Check.due("four versions", 4, x.freeze(act));
        Check.due("no version before", false, x.applies(act, 0, 2));
        Check.due("in force on this day", true, x.applies(act, 0, 3));
        Check.due("in all tongues", true, x.applies(act, 1, 3));
        Check.due("one version each", 1, x.versions(act, 1, 1));
        Check.due("by texts as they are", "n2", Check.textOn(x, act, 0, 1, 3));
        Check.draft(x, "n1", "n1");
        Check.due("versions of all acts", 6, x.freeze(1));
        Check.fails(x, "no act", IOOBE, () -> x.freeze(2));
        Check.fails(x, "act -1", IOOBE, () -> x.freeze(-1));
        Check.fails(x, "frozen", UOE, () -> x.freeze(act));
    }

    private static void promise17Faults() {
        Equaltexts x = new Equaltexts();
        int act = x.act(0, 0);
        Check.fails(x, "no units and no tongues", UOE, () -> x.freeze(act));
        x.unit(act, -1, -1);
        Check.fails(x, "no tongues", UOE, () -> x.freeze(act));
        x.tongue();
        x.tongue();
        Check.fails(x, "no texts", UOE, () -> x.freeze(act));
        Check.write(x, act, 0, 0, "w1");
        Check.write(x, act, 0, 1, "w1");
        int bare = x.act(0, 0);
        Check.fails(x, "no units", UOE, () -> x.freeze(bare));
        Check.write(x, act, 0, 0, "w2");
        Check.fails(x, "a text is stale", UOE, () -> x.freeze(act));
        Check.write(x, act, 0, 1, "w2");
        x.tongue();
        Check.fails(x, "a tongue joined", UOE, () -> x.freeze(act));
        Check.write(x, act, 0, 2, "w2");
        Check.due("it freezes", 3, x.freeze(act));
    }

    private static void promise17Versions() {
        Equaltexts x = Office400.with(396);
        int act = x.act(0, 0);
        Check.addUnit(x, act, "w1", "w1", "w1", "w1", "w1");
        Check.fails(x, "there would be 401", ISE, () -> x.freeze(act));
        Check.write(x, act, 0, 0, "w2");
        Check.fails(x, "stale ahead of full", UOE, () -> x.freeze(act));
        Check.fails(x, "frozen ahead of full", UOE, () -> x.freeze(0));
        Equaltexts y = Office400.with(395);
        int other = y.act(0, 0);
        Check.addUnit(y, other, "w1", "w1", "w1", "w1", "w1");
        Check.due("400 are enough", 400, y.freeze(other));
    }
}
