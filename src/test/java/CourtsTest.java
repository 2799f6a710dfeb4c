/** Promises 37 to 41: meanings and courts. */
public final class CourtsTest {
    private static final Class<IllegalStateException> ISE = IllegalStateException.class;
    private static final Class<IllegalArgumentException> IAE = IllegalArgumentException.class;
    private static final Class<IndexOutOfBoundsException> IOOBE = IndexOutOfBoundsException.class;
    private static final Class<UnsupportedOperationException> UOE = UnsupportedOperationException.class;
    private static final Class<java.util.NoSuchElementException> NSEE = java.util.NoSuchElementException.class;

    public static void main(String[] args) {
        promise37();
        promise37Faults();
        promise38();
        promise38Faults();
        promise39Common();
        promise39Purpose();
        promise39Published();
        promise40();
        promise41();
        Check.end("CourtsTest");
    }

    private static void meant(int want, String text) {
        Equaltexts x = Check.office(2, 3);
        x.mean(0, 1, 7);
        x.mean(1, 1, 6);
        x.mean(0, 0, 0);
        int act = Check.draft(x, text, text);
        Check.due("meaning of the draft " + text, want, x.meaning(act, 0, 1));
        x.freeze(act);
        Check.due("meaning of " + text, want, x.meaning(act, 0, 1));
    }

    private static void promise37() {
        meant(4095, "");
        meant(4095, "x w1 n5");
        meant(7, "t1");
        meant(6, "t1 t12");
        meant(4095, "t20");
        meant(0, "x t20");
        meant(4088, "x t0");
        meant(4088, "x x t0");
        meant(4088, "x x x t0");
        meant(7, "x w1 t0");
        meant(1, "t0 x t10");
        meant(0, "x t0 t0");
        meant(0, "t10 x t0");
        meant(4088, "x t0 x t10");
        meant(6, "t10 x");
    }

    private static void promise37Faults() {
        Equaltexts x = Check.office(2, 1);
        int act = Check.draft(x, "t0");
        Check.fails(x, "it has no text", NSEE, () -> x.meaning(act, 0, 1));
        Check.fails(x, "no act", IOOBE, () -> x.meaning(1, 0, 0));
        Check.fails(x, "act -1", IOOBE, () -> x.meaning(-1, 0, 0));
        Check.fails(x, "no unit", IOOBE, () -> x.meaning(act, 1, 1));
        Check.fails(x, "unit -1", IOOBE, () -> x.meaning(act, -1, 0));
        Check.fails(x, "no tongue", IOOBE, () -> x.meaning(act, 0, 2));
        Check.fails(x, "tongue -1", IOOBE, () -> x.meaning(act, 0, -1));
        Check.write(x, act, 0, 1, "t0");
        x.freeze(act);
        x.tongue();
        Check.translate(x, act, 0, 2, "t0");
        Check.fails(x, "translated, not published", NSEE, () -> x.meaning(act, 0, 2));
        x.publish(act, 2);
        Check.due("published", 4095, x.meaning(act, 0, 2));
    }

    /** An act of the unit "t0" in tongues in which its concept means what is told. */
    private static Equaltexts court(int purpose, int... meanings) {
        Equaltexts x = Check.office(meanings.length, 1);
        int act = x.act(purpose, 0);
        x.unit(act, -1, -1);
        for (int t = 0; t < meanings.length; t++) {
            x.mean(0, t, meanings[t]);
            Check.write(x, act, 0, t, "t0");
        }
        x.freeze(act);
        return x;
    }

    private static int found(Equaltexts x, char method) {
        return x.judged(x.judge(0, 0, method, 0));
    }

    private static void promise38() {
        Equaltexts x = court(0, 7, 6, 14);
        String methods = "cmpb";
        for (int i = 0; i < 30; i++) {
            Check.due("judge", i, x.judge(0, 0, methods.charAt(i % 4), i % 10));
        }
        Check.fails(x, "there are 30", ISE, () -> x.judge(0, 0, 'c', 0));
        Check.fails(x, "no such court ahead of full", IAE, () -> x.judge(0, 0, 'c', 10));
        int act = Check.draft(x, "w1", "w1", "w1");
        Check.fails(x, "drafted ahead of full", UOE, () -> x.judge(act, 0, 'c', 0));
    }

    private static void promise38Faults() {
        Equaltexts x = Check.office(1, 1);
        int act = Check.draft(x, "t0");
        Check.fails(x, "drafted", UOE, () -> x.judge(act, 0, 'c', 0));
        Check.fails(x, "no such court ahead of drafted", IAE, () -> x.judge(act, 0, 'c', 10));
        x.freeze(act);
        for (char method : new char[] {'a', 'C', 0, 'n', 'x', '\uffff'}) {
            Check.fails(x, "no such method", IAE, () -> x.judge(act, 0, method, 0));
        }
        Check.fails(x, "court -1", IAE, () -> x.judge(act, 0, 'm', -1));
        Check.fails(x, "court 10", IAE, () -> x.judge(act, 0, 'm', 10));
        Check.fails(x, "no act", IOOBE, () -> x.judge(1, 0, 'z', 0));
        Check.fails(x, "act -1", IOOBE, () -> x.judge(-1, 0, 'c', 0));
        Check.fails(x, "no unit", IOOBE, () -> x.judge(act, 1, 'c', 99));
        Check.fails(x, "unit -1", IOOBE, () -> x.judge(act, -1, 'c', 0));
    }

    private static void promise39Common() {
        Check.due("in all", 6 & 14, found(court(0, 7, 6, 14), 'c'));
        Check.due("in all, none", 0, found(court(0, 1, 2, 4), 'c'));
        Check.due("in all, of one", 5, found(court(0, 5), 'c'));
        Check.due("in more than half of three", 6, found(court(0, 7, 6, 14), 'm'));
        Check.due("half of four is not more", 8, found(court(0, 1 + 8, 1 + 8, 2 + 8, 2), 'm'));
        Check.due("of two", 4, found(court(0, 5, 6), 'm'));
        Check.due("of one", 5, found(court(0, 5), 'm'));
        Check.due("three of five", 1, found(court(0, 1, 1, 1, 2, 2), 'm'));
        Check.due("the last situation", 2048, found(court(0, 4095, 2048, 2049), 'c'));
        Equaltexts x = court(0, 1);
        Check.fails(x, "no judgment", IOOBE, () -> x.judged(0));
        Check.fails(x, "judgment -1", IOOBE, () -> x.judged(-1));
        x.judge(0, 0, 'c', 0);
        Check.fails(x, "no second judgment", IOOBE, () -> x.judged(1));
    }

    private static void promise39Purpose() {
        Check.due("nearest to the purpose", 12, found(court(4, 3, 12, 0b1110000), 'p'));
        Check.due("of several the lowest tongue", 6, found(court(4, 7, 6, 12), 'p'));
        Check.due("what the purpose has is as much as what it has not", 2, found(court(3, 2, 1, 7), 'p'));
        Check.due("the purpose itself", 9, found(court(9, 1, 8, 9, 9), 'p'));
        Check.due("all twelve differ", 4095, found(court(0, 4095), 'p'));
        Check.due("none but all twelve", 4095, found(court(0, 4095), 'b'));
        Check.due("the fewest situations", 8, found(court(4095, 7, 8, 4), 'b'));
        Check.due("none are the fewest", 0, found(court(4095, 1, 0, 2), 'b'));
        Check.due("likewise the lowest tongue", 5, found(court(3, 7, 5, 3), 'b'));
    }

    private static void promise39Published() {
        Equaltexts x = court(0, 6);
        x.tongue();
        x.mean(0, 1, 3);
        Check.translate(x, 0, 0, 1, "t0");
        Check.due("not yet published", 6, found(x, 'c'));
        x.publish(0, 1);
        Check.due("in force in both", 2, found(x, 'c'));
        x.tongue();
        Check.due("a third that is not there", 2, found(x, 'm'));
        int amendment = Check.move(x, 0, 0, 0, "x t0");
        Check.supply(x, amendment, 1, "x x t0");
        x.vote(amendment, 1, 0);
        Check.due("by the texts in force", 4095 & ~7, found(x, 'c'));
    }

    private static void promise40() {
        Equaltexts x = court(3, 7, 6, 14);
        for (char method : "cmpb".toCharArray()) {
            x.judge(0, 0, method, 1);
        }
        int[] found = {6, 6, 7, 6};
        for (int t = 0; t < 3; t++) {
            x.mean(0, t, 0);
        }
        int amendment = Check.move(x, 0, 0, 0, "w1");
        x.supply(amendment, 1);
        x.supply(amendment, 2);
        x.vote(amendment, 1, 0);
        x.tongue();
        Check.translate(x, 0, 0, 3, "");
        x.publish(0, 3);
        x.concept();
        for (int i = 0; i < 4; i++) {
            Check.due("judged " + i, found[i], x.judged(i));
            Check.due("replay " + i + " on the same day", found[i], x.replay(i));
        }
        x.pass(9);
        Check.due("replay on another day", 6, x.replay(0));
        Check.due("a judgment of now", 4095, found(x, 'c'));
        Check.due("the one before", 6, x.replay(1));
        Check.fails(x, "no judgment", IOOBE, () -> x.replay(5));
        Check.fails(x, "judgment -1", IOOBE, () -> x.replay(-1));
    }

    private static void promise41() {
        Equaltexts x = court(1, 7, 6, 14);
        Check.due("none", 0, x.conflicts());
        x.judge(0, 0, 'c', 0);
        x.judge(0, 0, 'm', 0);
        Check.due("alike", 0, x.conflicts());
        x.judge(0, 0, 'p', 0);
        Check.due("7 against two of 6", 2, x.conflicts());
        int act = Check.draft(x, "w1", "w1", "w1");
        Check.addUnit(x, act, "t0", "t0", "t0");
        x.freeze(act);
        x.judge(act, 0, 'c', 0);
        x.judge(act, 1, 'c', 0);
        Check.due("of other units", 2, x.conflicts());
        x.mean(0, 0, 0);
        x.judge(act, 1, 'c', 0);
        Check.due("of one unit, of different days of meaning", 3, x.conflicts());
        x.judge(0, 0, 'b', 0);
        Check.due("against all three", 6, x.conflicts());
    }
}
