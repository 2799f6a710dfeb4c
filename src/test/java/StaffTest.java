/** Promises 42 to 52: tongues that join, staff and memories. */
public final class StaffTest {
    private static final Class<IllegalStateException> ISE = IllegalStateException.class;
    private static final Class<IllegalArgumentException> IAE = IllegalArgumentException.class;
    private static final Class<IndexOutOfBoundsException> IOOBE = IndexOutOfBoundsException.class;
    private static final Class<UnsupportedOperationException> UOE = UnsupportedOperationException.class;
    private static final Class<java.util.NoSuchElementException> NSEE = java.util.NoSuchElementException.class;

    public static void main(String[] args) {
        promise42();
        promise43();
        promise44();
        promise44Faults();
        promise45();
        promise45Faults();
        promise45Versions();
        promise46();
        promise47Direct();
        promise47Pivot();
        promise47Faults();
        promise48Direct();
        promise48Pivot();
        promise48Faults();
        promise49();
        promise50();
        promise50Faults();
        promise51();
        promise51Ties();
        promise51Faults();
        promise52();
        Check.end("StaffTest");
    }

    private static void promise42() {
        Equaltexts x = Check.office(1, 0);
        Check.frozen(x, "w1");
        Check.frozen(x, "w1");
        Check.draft(x, "w1");
        Check.due("in force", 0, x.backlog(0));
        x.tongue();
        Check.due("two are frozen", 2, x.backlog(1));
        Check.translate(x, 0, 0, 1, "w1");
        Check.due("translated, not published", 2, x.backlog(1));
        x.publish(0, 1);
        Check.due("published", 1, x.backlog(1));
        Check.write(x, 2, 0, 1, "w1");
        x.freeze(2);
        Check.due("frozen with it", 1, x.backlog(1));
        Check.fails(x, "no tongue", IOOBE, () -> x.backlog(2));
        Check.fails(x, "tongue -1", IOOBE, () -> x.backlog(-1));
    }

    private static void promise43() {
        Equaltexts x = Check.office(1, 0);
        for (int priority : new int[] {3, 9, 3, 0, 5}) {
            int act = x.act(0, priority);
            Check.addUnit(x, act, "w1");
            if (act != 4) {
                x.freeze(act);
            }
        }
        x.tongue();
        int[] order = {1, 0, 2, 3};
        for (int i = 0; i < order.length; i++) {
            Check.due("backlogAt " + i, order[i], x.backlogAt(1, i));
        }
        Check.fails(x, "index 4", NSEE, () -> x.backlogAt(1, 4));
        Check.fails(x, "index -1", NSEE, () -> x.backlogAt(1, -1));
        Check.fails(x, "index of the least", NSEE, () -> x.backlogAt(1, Integer.MIN_VALUE));
        Check.fails(x, "nothing is behind", NSEE, () -> x.backlogAt(0, 0));
        Check.translate(x, 0, 0, 1, "");
        x.publish(0, 1);
        Check.due("without the published one", 2, x.backlogAt(1, 1));
        Check.fails(x, "index 3", NSEE, () -> x.backlogAt(1, 3));
        Check.fails(x, "no tongue", IOOBE, () -> x.backlogAt(2, 9));
        Check.fails(x, "tongue -1", IOOBE, () -> x.backlogAt(-1, 0));
    }

    private static void promise44() {
        Equaltexts x = Check.office(1, 0);
        int act = Check.draft(x, "n1");
        Check.addUnit(x, act, "n2");
        x.freeze(act);
        x.tongue();
        Check.due("one unit lacks a text", 1, Check.translate(x, act, 1, 1, "n3"));
        Check.due("the buffer is empty then", 0, x.wipe());
        Check.due("the same one again", 1, Check.translate(x, act, 1, 1, "n2"));
        Check.due("without tokens", 0, Check.translate(x, act, 0, 1, ""));
        Check.due("again", 0, Check.translate(x, act, 0, 1, "n1 w1"));
        Check.due("no version", 0, x.versions(act, 0, 1));
        x.publish(act, 1);
        Check.due("the last one", "n1 w1", Check.textOn(x, act, 0, 1, 0));
        x.tongue();
        Check.due("another tongue", 1, Check.translate(x, act, 0, 2, "n1"));
    }

    private static void promise44Faults() {
        Equaltexts x = Check.office(1, 0);
        int act = Check.draft(x, "n1");
        x.tongue();
        Check.type(x, "n1");
        Check.fails(x, "drafted", UOE, () -> x.translate(act, 0, 1));
        x.write(act, 0, 1);
        x.freeze(act);
        Check.type(x, "n1");
        Check.fails(x, "in force in this tongue", UOE, () -> x.translate(act, 0, 1));
        Check.fails(x, "no act", IOOBE, () -> x.translate(1, 0, 1));
        Check.fails(x, "act -1", IOOBE, () -> x.translate(-1, 0, 1));
        Check.fails(x, "no unit", IOOBE, () -> x.translate(act, 1, 1));
        Check.fails(x, "unit -1", IOOBE, () -> x.translate(act, -1, 1));
        Check.fails(x, "no tongue", IOOBE, () -> x.translate(act, 0, 2));
        Check.fails(x, "tongue -1", IOOBE, () -> x.translate(act, 0, -1));
        Check.due("the buffer stays", 1, x.wipe());
    }

    private static void promise45() {
        Equaltexts x = Check.office(2, 0);
        int act = Check.draft(x, "n1", "n1");
        Check.addUnit(x, act, "n1", "n2");
        x.freeze(act);
        x.tongue();
        Check.translate(x, act, 0, 2, "w1 n1");
        Check.translate(x, act, 1, 2, "n3 w1 w1");
        x.pass(5);
        Check.due("versions in all", 6, x.publish(act, 2));
        Check.due("of this day", false, x.applies(act, 2, 4));
        Check.due("in force", true, x.applies(act, 2, 5));
        Check.due("one version", 1, x.versions(act, 0, 2));
        Check.due("where there is no kernel any text will do", "n3 w1 w1", Check.textOn(x, act, 1, 2, 5));
        Check.fails(x, "in force by now", UOE, () -> x.publish(act, 2));
        x.tongue();
        int amendment = Check.move(x, act, 0, 0, "n7");
        Check.supply(x, amendment, 1, "n7");
        Check.supply(x, amendment, 2, "n7");
        x.vote(amendment, 1, 0);
        Check.translate(x, act, 0, 3, "n1");
        Check.translate(x, act, 1, 3, "n1");
        Check.fails(x, "the kernel has changed", UOE, () -> x.publish(act, 3));
        Check.translate(x, act, 0, 3, "n7");
        Check.due("with the new kernel", 11, x.publish(act, 3));
    }

    private static void promise45Faults() {
        Equaltexts x = Check.office(1, 1);
        int act = Check.draft(x, "n1 t0");
        Check.addUnit(x, act, "");
        x.tongue();
        Check.fails(x, "drafted", UOE, () -> x.publish(act, 1));
        Check.write(x, act, 0, 1, "n1 t0");
        Check.write(x, act, 1, 1, "");
        x.freeze(act);
        Check.fails(x, "in force", UOE, () -> x.publish(act, 0));
        x.tongue();
        Check.fails(x, "no unit has a text", UOE, () -> x.publish(act, 2));
        Check.translate(x, act, 0, 2, "t0 n1");
        Check.fails(x, "a unit has no text", UOE, () -> x.publish(act, 2));
        Check.translate(x, act, 1, 2, "n1");
        Check.fails(x, "unlike the kernel", UOE, () -> x.publish(act, 2));
        Check.translate(x, act, 1, 2, "w1");
        Check.translate(x, act, 0, 2, "n1 x t0");
        Check.fails(x, "the first one unlike the kernel", UOE, () -> x.publish(act, 2));
        Check.fails(x, "no act", IOOBE, () -> x.publish(1, 2));
        Check.fails(x, "act -1", IOOBE, () -> x.publish(-1, 2));
        Check.fails(x, "no tongue", IOOBE, () -> x.publish(act, 3));
        Check.fails(x, "tongue -1", IOOBE, () -> x.publish(act, -1));
        Check.translate(x, act, 0, 2, "t0 n1");
        Check.due("now it is ready", 6, x.publish(act, 2));
    }

    private static void promise45Versions() {
        Equaltexts x = Office400.frozen(389);
        for (int unit = 0; unit < 12; unit++) {
            Check.translate(x, 0, unit, 4, "");
        }
        Check.fails(x, "there would be 401", ISE, () -> x.publish(0, 4));
        Check.translate(x, 0, 3, 4, "m1");
        Check.fails(x, "unlike the kernel ahead of full", UOE, () -> x.publish(0, 4));
        Equaltexts y = Office400.frozen(388);
        for (int unit = 0; unit < 12; unit++) {
            Check.translate(y, 0, unit, 4, "w1");
        }
        Check.due("400 are enough", 400, y.publish(0, 4));
    }

    private static void promise46() {
        Equaltexts x = Check.office(2, 0);
        Check.fails(x, "a bit of no tongue", IAE, () -> x.translator(4, 1));
        Check.fails(x, "one bit of no tongue", IAE, () -> x.translator(5, 1));
        Check.fails(x, "tongues -1", IAE, () -> x.translator(-1, 1));
        Check.fails(x, "the least bits", IAE, () -> x.translator(Integer.MIN_VALUE, 1));
        Check.fails(x, "speed 0", IAE, () -> x.translator(1, 0));
        Check.fails(x, "speed 100", IAE, () -> x.translator(1, 100));
        Check.fails(x, "speed -1", IAE, () -> x.translator(1, -1));
        for (int i = 0; i < 8; i++) {
            Check.due("translator", i, x.translator(i % 4, i == 0 ? 99 : i));
        }
        Check.fails(x, "a ninth", ISE, () -> x.translator(1, 1));
        Check.fails(x, "a ninth out of range", IAE, () -> x.translator(1, 100));
        Equaltexts y = Check.office(5, 0);
        Check.due("of all five", 0, y.translator(31, 1));
        Check.fails(y, "a sixth bit", IAE, () -> y.translator(32, 1));
        Check.due("none without tongues", 0, new Equaltexts().translator(0, 1));
    }

    /** An act of units of 7 and 4 tokens in the tongue 0, of four. */
    private static Equaltexts work() {
        Equaltexts x = Check.office(4, 0);
        int act = Check.draft(x, "w1 w2 w3 w4 w5 w6 w7");
        Check.addUnit(x, act, "w1 w2 w3 w4");
        return x;
    }

    private static void promise47Direct() {
        Equaltexts x = work();
        x.translator(0b0011, 4);
        Check.due("11 tokens by 4, together, rounded up", 3, x.days(0, 0, 1));
        x.translator(0b0111, 6);
        Check.due("a faster one", 2, x.days(0, 0, 1));
        x.translator(0b0011, 11);
        Check.due("a day", 1, x.days(0, 0, 1));
        Check.due("one alone knows both", 2, x.days(0, 0, 2));
        Equaltexts y = work();
        y.translator(0b0011, 1);
        y.translator(0b0101, 99);
        y.translator(0b0110, 99);
        Check.due("direct work counts ahead, however long", 11, y.days(0, 0, 1));
        Check.write(y, 0, 0, 1, "");
        Check.write(y, 0, 1, 1, "w1");
        Check.due("by the texts of the first tongue", 1, y.days(0, 1, 0));
        Equaltexts z = Check.office(2, 0);
        z.translator(3, 9);
        z.act(0, 0);
        Check.due("an act without units", 0, z.days(0, 0, 1));
        Check.draft(z, "");
        Check.due("without tokens", 0, z.days(1, 0, 1));
    }

    private static void promise47Pivot() {
        Equaltexts x = work();
        x.translator(0b0011, 4);
        Check.fails(x, "the second one lacks", NSEE, () -> x.days(0, 0, 2));
        x.translator(0b0110, 5);
        Check.due("one behind the other, each rounded up", 6, x.days(0, 0, 2));
        Check.fails(x, "nobody knows the other", NSEE, () -> x.days(0, 0, 3));
        x.translator(0b1001, 99);
        x.translator(0b1100, 2);
        Check.due("through another pivot it takes longer", 6, x.days(0, 0, 2));
        x.translator(0b1100, 3);
        Check.due("it takes 1 and 4", 5, x.days(0, 0, 2));
        Equaltexts y = work();
        y.translator(0b0001, 99);
        y.translator(0b0010, 99);
        Check.fails(y, "no pivot", NSEE, () -> y.days(0, 0, 1));
        y.translator(0b0101, 99);
        y.translator(0b1010, 99);
        Check.fails(y, "unlike pivots", NSEE, () -> y.days(0, 0, 1));
        y.translator(0b0110, 99);
        Check.due("one pivot", 2, y.days(0, 0, 1));
        Equaltexts z = Check.office(3, 0);
        Check.draft(z, "", "w1 w2 w3");
        z.translator(0b100, 1);
        Check.fails(z, "the tongue 1 is not known", NSEE, () -> z.days(0, 1, 2));
        z.translator(0b101, 2);
        Check.fails(z, "nor into the pivot 0", NSEE, () -> z.days(0, 1, 2));
        z.translator(0b011, 1);
        Check.due("through the pivot 0", 5, z.days(0, 1, 2));
    }

    private static void workFaults(Equaltexts x, Check.Call drafted, Check.Call[] outOfBounds, Check.Call same) {
        Check.fails(x, "a unit has no text", NSEE, drafted);
        for (Check.Call call : outOfBounds) {
            Check.fails(x, "no such act or tongue", IOOBE, call);
        }
        Check.fails(x, "both are the same", IAE, same);
    }

    private static void promise47Faults() {
        Equaltexts x = work();
        Check.fails(x, "nobody can", NSEE, () -> x.days(0, 0, 1));
        x.translator(0b0111, 1);
        Check.write(x, 0, 0, 1, "w1");
        workFaults(x, () -> x.days(0, 1, 0), new Check.Call[] {
            () -> x.days(1, 0, 1), () -> x.days(-1, 0, 1), () -> x.days(0, 4, 1),
            () -> x.days(0, -1, 1), () -> x.days(0, 0, 4), () -> x.days(0, 0, -1), () -> x.days(0, 4, 4)
        }, () -> x.days(0, 3, 3));
        Equaltexts y = Check.office(1, 0);
        Check.frozen(y, "w1");
        y.tongue();
        y.translator(3, 1);
        Check.translate(y, 0, 0, 1, "w1 w1");
        Check.fails(y, "translated, not published", NSEE, () -> y.days(0, 1, 0));
        y.publish(0, 1);
        Check.due("published", 2, y.days(0, 1, 0));
    }

    private static void promise48Direct() {
        Equaltexts x = work();
        x.translator(0b0011, 6);
        x.translator(0b0011, 5);
        x.translator(0b0011, 10);
        x.translator(0b0010, 99);
        Check.due("of several the lowest", 0, x.assign(0, 0, 1));
        Check.due("then the one who was assigned less", 2, x.assign(0, 0, 1));
        Check.due("alike again", 0, x.assign(0, 0, 1));
        Check.due("twice", 22L, x.load(0));
        Check.due("never, being slower", 0L, x.load(1));
        Check.due("once", 11L, x.load(2));
        Check.due("knows but one", 0L, x.load(3));
    }

    private static void promise48Pivot() {
        Equaltexts x = work();
        x.translator(0b0110, 11);
        x.translator(0b0011, 11);
        x.translator(0b1100, 11);
        x.translator(0b1001, 11);
        x.translator(0b0011, 11);
        Check.due("through the lowest pivot", 1, x.assign(0, 0, 2));
        Check.due("the second one is assigned too", 11L, x.load(0));
        Check.due("through the other one, with less assigned", 3, x.assign(0, 0, 2));
        Check.due("its second one", 11L, x.load(2));
        Check.due("the least sum, of the pivot 1", 4, x.assign(0, 0, 2));
        Check.due("both sums are 22, so the lowest pivot", 22L, x.load(0));
        Check.due("now the other pivot", 3, x.assign(0, 0, 2));
        Check.due("sum", 22L, x.load(3));
        Check.due("of both", 33L, x.load(0) + x.load(1));
        Equaltexts y = work();
        y.translator(0b0110, 3);
        y.translator(0b0011, 4);
        y.translator(0b0011, 5);
        y.translator(0b0110, 2);
        Check.due("3 and 4 days, of two alike the lower number", 1, y.assign(0, 0, 2));
        Check.due("of equal days less assigned", 2, y.assign(0, 0, 2));
        Check.due("the fewest days ahead of less assigned", 22L, y.load(0));
        Check.due("a slow one never", 0L, y.load(3));
    }

    private static void promise48Faults() {
        Equaltexts x = work();
        Check.fails(x, "nobody can", NSEE, () -> x.assign(0, 0, 1));
        x.translator(0b0111, 1);
        Check.write(x, 0, 0, 1, "w1");
        workFaults(x, () -> x.assign(0, 1, 0), new Check.Call[] {
            () -> x.assign(1, 0, 1), () -> x.assign(-1, 0, 1), () -> x.assign(0, 4, 1),
            () -> x.assign(0, -1, 1), () -> x.assign(0, 0, 4), () -> x.assign(0, 0, -1), () -> x.assign(0, 4, 4)
        }, () -> x.assign(0, 3, 3));
        Check.due("nothing was assigned", 0L, x.load(0));
    }

    private static void promise49() {
        Equaltexts x = work();
        x.translator(0b0011, 1);
        Check.due("nothing at first", 0L, x.load(0));
        for (int i = 0; i < 40; i++) {
            x.assign(0, 0, 1);
        }
        Check.due("40 times 11", 440L, x.load(0));
        Check.fails(x, "no translator", IOOBE, () -> x.load(1));
        Check.fails(x, "translator -1", IOOBE, () -> x.load(-1));
    }

    private static void promise50() {
        Equaltexts x = Check.office(2, 0);
        int act = Check.draft(x, "w1", "w2");
        x.translator(0, 1);
        for (int i = 0; i < 20; i++) {
            Check.due("memorize", i + 1, i % 2 == 0 ? x.memorize(act, 0, 0, 1, 0) : x.memorize(act, 0, 1, 0, 0));
        }
        Check.fails(x, "a twenty-first", ISE, () -> x.memorize(act, 0, 0, 1, 0));
        Check.fails(x, "both the same ahead of full", IAE, () -> x.memorize(act, 0, 1, 1, 0));
        x.tongue();
        Check.fails(x, "no text ahead of full", NSEE, () -> x.memorize(act, 0, 0, 2, 0));
        Check.write(x, act, 0, 0, "w7 w8 w9");
        Check.write(x, act, 0, 1, "w5");
        Check.due("texts as they were", 3, x.propose(act, 0, 0, 1));
        Check.due("not as they are", 1, x.wipe());
    }

    private static void promise50Faults() {
        Equaltexts x = Check.office(3, 0);
        int act = Check.draft(x, "w1", "w2");
        x.translator(0, 1);
        Check.fails(x, "no act", IOOBE, () -> x.memorize(1, 0, 0, 1, 0));
        Check.fails(x, "act -1", IOOBE, () -> x.memorize(-1, 0, 0, 1, 0));
        Check.fails(x, "no unit", IOOBE, () -> x.memorize(act, 1, 0, 1, 0));
        Check.fails(x, "unit -1", IOOBE, () -> x.memorize(act, -1, 0, 1, 0));
        Check.fails(x, "no tongue from", IOOBE, () -> x.memorize(act, 0, 3, 1, 0));
        Check.fails(x, "tongue -1 to", IOOBE, () -> x.memorize(act, 0, 0, -1, 0));
        Check.fails(x, "no translator", IOOBE, () -> x.memorize(act, 0, 0, 0, 1));
        Check.fails(x, "translator -1", IOOBE, () -> x.memorize(act, 0, 0, 1, -1));
        Check.fails(x, "both the same", IAE, () -> x.memorize(act, 0, 2, 2, 0));
        Check.fails(x, "the target has no text", NSEE, () -> x.memorize(act, 0, 0, 2, 0));
        Check.fails(x, "the source has no text", NSEE, () -> x.memorize(act, 0, 2, 0, 0));
        Check.due("the first one", 1, x.memorize(act, 0, 0, 1, 0));
    }

    private static void promise51() {
        Equaltexts x = Check.office(3, 0);
        int act = Check.draft(x, "w1 w2 w3", "n1 n2", "n7");
        Check.addUnit(x, act, "w1", "n3 n4 n5");
        Check.addUnit(x, act, "w1 w2", "");
        x.translator(0, 1);
        x.memorize(act, 0, 0, 1, 0);
        Check.due("the only one", 2, x.propose(act, 1, 0, 1));
        Check.due("two tokens", 2, x.wipe());
        x.memorize(act, 1, 0, 1, 0);
        Check.type(x, "w9 w9 w9 w9");
        Check.due("itself", 0, x.propose(act, 1, 0, 1));
        Check.due("in place of what was there", 3, x.wipe());
        Check.due("a text can be proposed behind that", 1, x.propose(act, 2, 0, 1));
        Check.due("of two alike the last one", 3, x.wipe());
        Check.write(x, act, 2, 0, "n9 w2 w3 w4");
        Check.due("the nearest", 2, x.propose(act, 2, 0, 1));
        Check.due("of the unit 0", 2, x.wipe());
        Check.fails(x, "not in the other direction", NSEE, () -> x.propose(act, 0, 1, 0));
        Check.fails(x, "not of another tongue", NSEE, () -> x.propose(act, 0, 0, 2));
        Check.fails(x, "not from another tongue", NSEE, () -> x.propose(act, 0, 2, 1));
        x.memorize(act, 0, 1, 0, 0);
        Check.due("in the other direction", 0, x.propose(act, 0, 1, 0));
        Check.due("of three tokens", 3, x.wipe());
        Check.write(x, act, 0, 0, "");
        x.propose(act, 0, 1, 0);
        x.write(act, 0, 0);
        Check.due("as it was memorized", 0, x.propose(act, 0, 0, 1));
    }

    /** Which of the entries, told by how many tokens their targets have, is proposed for the unit 0. */
    private static void promise51Ties() {
        Equaltexts x = Check.office(2, 0);
        int act = Check.draft(x, "w1", "");
        Check.addUnit(x, act, "w1", "n1");
        x.translator(0, 1);
        x.memorize(act, 0, 0, 1, 0);
        x.memorize(act, 1, 0, 1, 0);
        x.propose(act, 0, 0, 1);
        Check.due("the one of the same unit ahead of a later one", 0, x.wipe());
        Check.write(x, act, 0, 1, "n1 n2");
        x.memorize(act, 0, 0, 1, 0);
        x.memorize(act, 1, 0, 1, 0);
        x.propose(act, 0, 0, 1);
        Check.due("of several of it the last one", 2, x.wipe());
        int other = Check.draft(x, "w1", "n1 n2 n3");
        x.propose(other, 0, 0, 1);
        Check.due("of none of it the last one: the unit 0 is of another act", 1, x.wipe());
        Check.write(x, act, 1, 1, "n1 n2 n3 n4");
        x.memorize(act, 1, 0, 1, 0);
        x.memorize(other, 0, 0, 1, 0);
        Check.draft(x, "w1");
        x.propose(2, 0, 0, 1);
        Check.due("the last one of all", 3, x.wipe());
        Check.write(x, act, 1, 0, "w2");
        x.memorize(act, 1, 0, 1, 0);
        Check.write(x, act, 0, 0, "w2");
        Check.due("nearer ahead of the same unit", 0, x.propose(act, 0, 0, 1));
        Check.due("of the other unit", 4, x.wipe());
    }

    private static void promise51Faults() {
        Equaltexts x = Check.office(3, 0);
        int act = Check.draft(x, "w1", "w2");
        x.translator(0, 1);
        Check.type(x, "w3 w4");
        Check.fails(x, "the memory has none", NSEE, () -> x.propose(act, 0, 0, 1));
        x.memorize(act, 0, 0, 1, 0);
        Check.fails(x, "the source has no text", NSEE, () -> x.propose(act, 0, 2, 1));
        Check.fails(x, "both the same", IAE, () -> x.propose(act, 0, 2, 2));
        Check.fails(x, "no act", IOOBE, () -> x.propose(1, 0, 0, 0));
        Check.fails(x, "act -1", IOOBE, () -> x.propose(-1, 0, 0, 1));
        Check.fails(x, "no unit", IOOBE, () -> x.propose(act, 1, 0, 1));
        Check.fails(x, "unit -1", IOOBE, () -> x.propose(act, -1, 0, 1));
        Check.fails(x, "no tongue from", IOOBE, () -> x.propose(act, 0, 3, 3));
        Check.fails(x, "no tongue to", IOOBE, () -> x.propose(act, 0, 0, 3));
        Check.fails(x, "tongue -1", IOOBE, () -> x.propose(act, 0, -1, 0));
        Check.due("the buffer stays", 2, x.wipe());
        int bare = x.act(0, 0);
        x.unit(bare, -1, -1);
        Check.write(x, bare, 0, 0, "w1");
        Check.due("a target need not be there", 0, x.propose(bare, 0, 0, 1));
    }

    private static void promise52() {
        Equaltexts x = Check.office(2, 0);
        int act = Check.draft(x, "w1", "n1");
        Check.addUnit(x, act, "w1", "n1 n2");
        Check.addUnit(x, act, "w1", "n1 n2 n3");
        x.translator(0, 1);
        x.translator(0, 1);
        Check.due("nothing yet", 0, x.poison(0));
        x.memorize(act, 0, 0, 1, 0);
        x.memorize(act, 1, 0, 1, 1);
        x.memorize(act, 2, 0, 1, 0);
        x.memorize(act, 0, 1, 0, 0);
        Check.due("three", 3, x.poison(0));
        Check.due("none any more", 0, x.poison(0));
        Check.due("the other one's is there", 0, x.propose(act, 0, 0, 1));
        Check.due("of two tokens", 2, x.wipe());
        Check.fails(x, "taken", NSEE, () -> x.propose(act, 0, 1, 0));
        Check.due("room again", 2, x.memorize(act, 0, 0, 1, 0));
        Check.due("the last one", 1, x.poison(1));
        Check.due("one is left", 2, x.memorize(act, 0, 0, 1, 0));
        Check.fails(x, "no translator", IOOBE, () -> x.poison(2));
        Check.fails(x, "translator -1", IOOBE, () -> x.poison(-1));
    }
}
